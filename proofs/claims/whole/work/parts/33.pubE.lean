theorem aTurn_r {p : zPc} {what x y : Int} (h : ∀ x y : Int, 0 ≤ x ∧ x < p.1 → 0 ≤ y ∧ y < p.2.1 → 0 ≤ p.2.2 x y ∧ p.2.2 x y ≤ 255) (hx : 0 ≤ x ∧ x < (aTurn p what).1) (hy : 0 ≤ y ∧ y < (aTurn p what).2.1) : 0 ≤ (aTurn p what).2.2 x y ∧ (aTurn p what).2.2 x y ≤ 255 := by
  unfold aTurn at *
  by_cases h3 : what = 3
  · rw [if_pos h3] at hx hy ⊢; exact h y x hy hx
  · rw [if_neg h3] at hx hy ⊢
    simp only at hx hy ⊢
    split
    · exact h _ _ (by omega) hy
    · split
      · exact h _ _ hx (by omega)
      · have := h x y hx hy
        split <;> omega
theorem X_turn {G : zG} {B : Nat} {σ τ : zSt} {A : zA} {to of what : Int} (h : zxR B σ τ A) (hto : -2147483648 ≤ to ∧ to ≤ 2147483647) (hof : -2147483648 ≤ of ∧ of ≤ 2147483647) (hwhat : -2147483648 ≤ what ∧ what ≤ 2147483647) : zC G M_X10_turn [.ref B, vi to, vi of, vi what] (zxS B, σ, τ) (xQ B (sp_turn A to of what)) := by
  refine zC_of 0 rfl (Nat.le_of_ble_eq_true rfl) ?_
  have J : ∀ v : Int, v = (if aPl to then if aTold A of then if 0 ≤ what ∧ what ≤ 4 then if what = 3 then if 12 < (A.1 of.toNat).1 then 3 else 0 else 0 else 1 else 1 else 1) → zW G M_X10_turn (xQ B (sp_turn A to of what)) 53 [some (.ref B), some (vi to), some (vi of), some (vi what)] [vi v, .ref B] (zxS B, σ, τ) := by
    intro v hv

    refine zw_cVi1 56 rfl dX10_turn_53 kX10_turn_105 (Nat.le_of_ble_eq_true rfl) (by first | assumption | exact zx_o0 | exact zx_o _ _ _ rfl) (c_refused (by rw [hv]; (repeat' split) <;> omega)) ?_
    refine zw_if_eqB 61 59 rfl dX10_turn_56 (by decide) (fun h_56 => ?_) (fun h_56 => ?_)
    · have hc1 : aPl to := Decidable.byContradiction fun q => by rw [if_neg q] at hv; omega
      rw [if_pos hc1] at hv
      have hc2 : aTold A of := Decidable.byContradiction fun q => by rw [if_neg q] at hv; omega
      rw [if_pos hc2] at hv
      have hc3 : 0 ≤ what ∧ what ≤ 4 := Decidable.byContradiction fun q => by rw [if_neg q] at hv; omega
      rw [if_pos hc3] at hv
      have h12 : what = 3 → (A.1 of.toNat).1 ≤ 12 := fun q => by rw [if_pos q] at hv; split at hv <;> omega
      have hv0 : v = 0 := by revert hv; (repeat' split) <;> omega
      subst hv0
      have hw0 : (if aPl to then if aTold A of then if 0 ≤ what ∧ what ≤ 4 then if what = 3 then if 12 < (A.1 of.toNat).1 then 3 else 0 else 0 else 1 else 1 else 1) = (0 : Int) := by rw [if_pos hc1, if_pos hc2, if_pos hc3]; exact hv.symm
      have hs1 : xScr B σ (zu σ B 17 0) := xScr.z
      refine zw_aload_n 62 rfl dX10_turn_61 rfl ?_
      refine zw_aload_n 63 rfl dX10_turn_62 rfl ?_
      refine zw_getr 66 rfl dX10_turn_63 fl_X10_11 (by first | assumption | exact zx_o0 | exact zx_o _ _ _ rfl) (by first | assumption | exact zx_f0 _ _ rfl | exact zx_f _ _ _ rfl) ?_
      refine zw_iload_n 67 rfl dX10_turn_66 rfl ?_
      refine zw_aald 68 rfl dX10_turn_67 (by first | assumption | exact zx_o0 | exact zx_o _ _ _ rfl) (by omega) (by omega) (by first | assumption | exact zx_p6r (by omega)) ?_
      refine zw_iload_n 69 rfl dX10_turn_68 rfl ?_
      refine zw_cVr2 72 rfl dX10_turn_69 kX10_turn_207 (Nat.le_of_ble_eq_true rfl) (by first | assumption | exact zx_o0 | exact zx_o _ _ _ rfl) (c_turnToWork (zx_p6 (by omega)) (hs1.P h.p of.toNat (by omega)) hc2.2 hc3 h12 (by simp only [zpa]; omega)) ?_
      rintro _ _ ⟨rfl, σs, rfl, hl⟩
      have hs2 := hs1.tr hl.1
      have hwh := (h.p of.toNat (by omega)).wh hc2.2
      have hdr := ((h.p of.toNat (by omega)).2.2 hc2.2).2.2
      have hd : (1 ≤ (aTurn (A.1 of.toNat) what).1 ∧ (aTurn (A.1 of.toNat) what).1 ≤ 16) ∧ 1 ≤ (aTurn (A.1 of.toNat) what).2.1 ∧ (aTurn (A.1 of.toNat) what).2.1 ≤ 12 := by
        unfold aTurn
        by_cases h3 : what = 3
        · rw [if_pos h3]; have := h12 h3; simp only; omega
        · rw [if_neg h3]; simp only; omega
      have hpic := hl.pic (Int.le_refl _) hd.1 hd.2 (fun a b ha hb => aTurn_r (fun x y hx hy => (hdr x y hx hy).2) ha hb)
      refine zw_aload_n 73 rfl dX10_turn_72 rfl ?_
      refine zw_iload_n 74 rfl dX10_turn_73 rfl ?_
      refine zw_cVr1 77 rfl dX10_turn_74 kX10_turn_188 (Nat.le_of_ble_eq_true rfl) (by first | assumption | exact zx_o0 | exact zx_o _ _ _ rfl) (c_actOn (hs2.P h.p) (hs2.H h.hs) hpic hc1) ?_
      rintro _ _ ⟨rfl, σ2, rfl, hA⟩
      refine zw_iconst 78 rfl dX10_turn_77 ?_
      exact zw_zret (st := []) dX10_turn_78 rfl (by omega) (xGood (σ := σ) (τ := τ) hw0 rfl (h.act hs2 rfl (hl.2.1.trans (zu_eq _ _ _ _)) hA (by omega)))
    · refine zw_iconst 60 rfl dX10_turn_59 ?_
      subst hv
      exact zw_zret (st := []) dX10_turn_60 rfl (by omega) (xRef h h_56 (by (repeat' split) <;> omega))
  refine zw_aload_n 1 rfl dX10_turn_0 rfl ?_
  refine zw_iload_n 2 rfl dX10_turn_1 rfl ?_
  refine zw_cSi1 5 rfl dX10_turn_2 kX10_turn_191 (Nat.le_of_ble_eq_true rfl) (c_isPlace hto) ?_
  refine zw_if_eqB 25 8 rfl dX10_turn_5 (by decide) (fun h_5 => ?_) (fun h_5 => ?_)
  · refine zw_iconst 26 rfl dX10_turn_25 ?_
    refine zw_goto 53 dX10_turn_26 (by decide) ?_
    exact J _ (by first | (simp only [if_neg h_5]; done) | (simp only [if_pos h_5, if_pos h_13, if_pos h_22, if_pos h_31]; rw [if_neg (by omega)]) | (simp only [if_pos h_5, if_pos h_13, if_pos h_22, if_pos h_31]; rw [if_pos (by omega)]))
  · refine zw_aload_n 9 rfl dX10_turn_8 rfl ?_
    refine zw_iload_n 10 rfl dX10_turn_9 rfl ?_
    refine zw_cVi1 13 rfl dX10_turn_10 kX10_turn_145 (Nat.le_of_ble_eq_true rfl) (by first | assumption | exact zx_o0 | exact zx_o _ _ _ rfl) (c_told h.p hof) ?_
    refine zw_if_eqB 25 16 rfl dX10_turn_13 (by decide) (fun h_13 => ?_) (fun h_13 => ?_)
    · refine zw_iconst 26 rfl dX10_turn_25 ?_
      refine zw_goto 53 dX10_turn_26 (by decide) ?_
      exact J _ (by first | (simp only [if_pos h_5, if_neg h_13]; done) | (simp only [if_pos h_5, if_pos h_13, if_pos h_22, if_pos h_31]; rw [if_neg (by omega)]) | (simp only [if_pos h_5, if_pos h_13, if_pos h_22, if_pos h_31]; rw [if_pos (by omega)]))
    · refine zw_iload_n 17 rfl dX10_turn_16 rfl ?_
      refine zw_iconst 18 rfl dX10_turn_17 ?_
      refine zw_iconst 19 rfl dX10_turn_18 ?_
      refine zw_cSi3 22 rfl dX10_turn_19 kX10_turn_101 (Nat.le_of_ble_eq_true rfl) (c_within (by omega) (by omega) (by omega)) ?_
      refine zw_if_neB 29 25 rfl dX10_turn_22 (by decide) (fun h_22 => ?_) (fun h_22 => ?_)
      · refine zw_iload_n 30 rfl dX10_turn_29 rfl ?_
        refine zw_iconst 31 rfl dX10_turn_30 ?_
        refine zw_icmp_ne 52 34 rfl dX10_turn_31 (by decide) (by omega) (by omega) (fun h_31 => ?_) (fun h_31 => ?_)
        · refine zw_iconst 53 rfl dX10_turn_52 ?_
          exact J _ (by first | (simp only [if_pos h_5, if_pos h_13, if_pos h_22, if_neg h_31]; done) | (simp only [if_pos h_5, if_pos h_13, if_pos h_22, if_pos h_31]; rw [if_neg (by omega)]) | (simp only [if_pos h_5, if_pos h_13, if_pos h_22, if_pos h_31]; rw [if_pos (by omega)]))
        · have hwh := (h.p of.toNat (by omega)).wh h_13.2
          refine zw_aload_n 35 rfl dX10_turn_34 rfl ?_
          refine zw_getr 38 rfl dX10_turn_35 fl_X10_11 (by first | assumption | exact zx_o0 | exact zx_o _ _ _ rfl) (by first | assumption | exact zx_f0 _ _ rfl | exact zx_f _ _ _ rfl) ?_
          refine zw_iload_n 39 rfl dX10_turn_38 rfl ?_
          refine zw_aald 40 rfl dX10_turn_39 (by first | assumption | exact zx_o0 | exact zx_o _ _ _ rfl) (by omega) (by omega) (by first | assumption | exact zx_p6r (by omega)) ?_
          refine zw_geti 43 rfl dX10_turn_40 fl_X10_148 (zx_p6 (by omega)).1 ?_
          rw [hwh.1.1]
          refine zw_bipush 45 rfl dX10_turn_43 rfl ?_
          refine zw_icmp_le 52 48 rfl dX10_turn_45 (by decide) (by omega) (by omega) (fun h_45 => ?_) (fun h_45 => ?_)
          · refine zw_iconst 53 rfl dX10_turn_52 ?_
            exact J _ (by first | (simp only [if_pos h_5, if_pos h_13, if_pos h_22, if_pos h_31, if_pos h_45]; done) | (simp only [if_pos h_5, if_pos h_13, if_pos h_22, if_pos h_31]; rw [if_neg (by omega)]) | (simp only [if_pos h_5, if_pos h_13, if_pos h_22, if_pos h_31]; rw [if_pos (by omega)]))
          · refine zw_iconst 49 rfl dX10_turn_48 ?_
            refine zw_goto 53 dX10_turn_49 (by decide) ?_
            exact J _ (by first | (simp only [if_pos h_5, if_pos h_13, if_pos h_22, if_pos h_31, if_neg h_45]; done) | (simp only [if_pos h_5, if_pos h_13, if_pos h_22, if_pos h_31]; rw [if_neg (by omega)]) | (simp only [if_pos h_5, if_pos h_13, if_pos h_22, if_pos h_31]; rw [if_pos (by omega)]))
      · refine zw_iconst 26 rfl dX10_turn_25 ?_
        refine zw_goto 53 dX10_turn_26 (by decide) ?_
        exact J _ (by first | (simp only [if_pos h_5, if_pos h_13, if_neg h_22]; done) | (simp only [if_pos h_5, if_pos h_13, if_pos h_22, if_pos h_31]; rw [if_neg (by omega)]) | (simp only [if_pos h_5, if_pos h_13, if_pos h_22, if_pos h_31]; rw [if_pos (by omega)]))
/-! ===== acts that tell how many dots are others ===== -/
theorem aOth_eq {σ : zSt} {a b : Nat} {p q : zPc} (h : xrPic σ a p) (hq : xrPic σ b q) (h0 : 0 < p.1) (e1 : p.1 = q.1) (e2 : p.2.1 = q.2.1) : zfold (fun d m => m + if σ (a + 1) d = σ (b + 1) d then 0 else 1) (σ a 1 * σ a 2).toNat 0 = aOth p q := by
  have h1 := h.wh h0
  have g1 := (h.2.2 h0).2.2
  have g2 := (hq.2.2 (by omega)).2.2
  rw [h1.1.1, h1.1.2]
  unfold aOth
  refine zfold_win (by omega) (by omega) (fun x y hx hy m => ?_) 0
  have t1 := (g1 x y hx hy).1
  have t2 := (g2 x y (by omega) (by omega)).1
  rw [← e1] at t2
  rw [t1, t2]
theorem c_actCO {G : zG} {B : Nat} {σ τ : zSt} {P : Nat → zPc} {Hs : List (Nat → zPc)} {p : zPc} {to of : Int} (hP : xrP B σ P) (hH : xrH B σ P Hs) (hw : xrPic σ (B + 2) p) (ht : aPl to) (hf : aPl of) (h0 : 0 < p.1) (e1 : p.1 = (P of.toNat).1) (e2 : p.2.1 = (P of.toNat).2.1) : zC G M_X10_actCountingOthers [.ref B, vi to, vi of] (zxS B, σ, τ) (fun r w' => r = some (vi (aOth p (P of.toNat))) ∧ ∃ σ' : zSt, w' = (zxS B, σ', τ) ∧ xActed B σ σ' P Hs to.toNat p) := by
  have hq := hP of.toNat (by omega)
  have sd1 := hw.sd h0
  have sd2 := hq.sd (by omega)
  have w1 := hw.wh h0
  have w2 := hq.wh (by omega)
  rw [w2.1.1, w2.1.2, ← e1, ← e2, ← w1.1.1, ← w1.1.2] at sd2
  have ho : zC G M_X10_othersIn [.ref (B + 2), .ref (zpa B of.toNat)] (zxS B, σ, τ) (zR (some (vi (aOth p (P of.toNat)))) (zxS B, σ, τ)) := by
    rw [← aOth_eq hw hq h0 e1 e2]
    exact c_othersIn zx_work (zx_p6 (by omega)) hw.1 (fun j hj => ⟨sd1 j hj, sd2 j hj⟩)
  refine zC_of 1 rfl (Nat.le_of_ble_eq_true rfl) ?_
  refine zw_iload_n 1 rfl dX10_actCountingOthers_0 rfl ?_
  refine zw_cSi1 4 rfl dX10_actCountingOthers_1 kX10_actCountingOthers_191 (Nat.le_of_ble_eq_true rfl) (c_isPlace (by omega)) ?_
  refine zw_if_eqB 23 7 rfl dX10_actCountingOthers_4 (by decide) (fun h_4 => ?_) (fun h_4 => ?_)
  · exact absurd hf h_4
  · refine zw_aload_n 8 rfl dX10_actCountingOthers_7 rfl ?_
    refine zw_getr 11 rfl dX10_actCountingOthers_8 fl_X10_16 (by first | assumption | exact zx_o0 | exact zx_o _ _ _ rfl) (by first | assumption | exact zx_f0 _ _ rfl | exact zx_f _ _ _ rfl) ?_
    refine zw_aload_n 12 rfl dX10_actCountingOthers_11 rfl ?_
    refine zw_getr 15 rfl dX10_actCountingOthers_12 fl_X10_11 (by first | assumption | exact zx_o0 | exact zx_o _ _ _ rfl) (by first | assumption | exact zx_f0 _ _ rfl | exact zx_f _ _ _ rfl) ?_
    refine zw_iload_n 16 rfl dX10_actCountingOthers_15 rfl ?_
    refine zw_aald 17 rfl dX10_actCountingOthers_16 (by first | assumption | exact zx_o0 | exact zx_o _ _ _ rfl) (by omega) (by omega) (by first | assumption | exact zx_p6r (by omega)) ?_
    refine zw_cSi2 20 rfl dX10_actCountingOthers_17 kX10_actCountingOthers_316 (Nat.le_of_ble_eq_true rfl) ho ?_
    refine zw_goto 24 dX10_actCountingOthers_20 (by decide) ?_
    refine zw_istore_n 25 rfl dX10_actCountingOthers_24 (Nat.le_of_ble_eq_true rfl) rfl ?_
    refine zw_aload_n 26 rfl dX10_actCountingOthers_25 rfl ?_
    refine zw_iload_n 27 rfl dX10_actCountingOthers_26 rfl ?_
    refine zw_cVr1 30 rfl dX10_actCountingOthers_27 kX10_actCountingOthers_188 (Nat.le_of_ble_eq_true rfl) (by first | assumption | exact zx_o0 | exact zx_o _ _ _ rfl) (c_actOn hP hH hw ht) ?_
    rintro _ _ ⟨rfl, σ2, rfl, hA⟩
    refine zw_iload_n 31 rfl dX10_actCountingOthers_30 rfl ?_
    exact zw_iret (st := []) dX10_actCountingOthers_31 rfl ⟨rfl, _, rfl, hA⟩
/-! ===== the dots of the work picture changed one by one ===== -/
def xDI (B : Nat) (σr : zSt) (w h : Int) (N O : Nat → Int) (i : Nat) (σs : zSt) : Prop := xScr B σr σs ∧ σs B 17 = σr B 17 ∧ σs (B + 2) 1 = w ∧ σs (B + 2) 2 = h ∧ (∀ j, j < i → σs (B + 3) j = N j) ∧ ∀ j : Nat, i ≤ j → (j : Int) < w * h → σs (B + 3) j = O j
theorem xDI.put {B i : Nat} {σr σs : zSt} {w h : Int} {N O : Nat → Int} (hl : xDI B σr w h N O i σs) : xDI B σr w h N O (i + 1) (zu σs (B + 3) i (N i)) := by
  obtain ⟨h1, h2, h3, h4, h5, h6⟩ := hl
  refine ⟨⟨fun k hk => by rw [zu_row _ _ (by omega)]; exact h1.1 k hk, fun b b1 b2 b3 => by rw [zu_row _ _ (by omega)]; exact h1.2 b b1 b2 b3⟩, by rw [zu_row _ _ (by omega)]; exact h2, by rw [zu_row _ _ (by omega)]; exact h3, by rw [zu_row _ _ (by omega)]; exact h4, fun j hj => ?_, fun j hj hn => ?_⟩
  · by_cases e : j = i
    · subst e; exact zu_eq _ _ _ _
    · rw [zu_k _ _ e]; exact h5 j (by omega)
  · rw [zu_k _ _ (by omega)]; exact h6 j (by omega) hn
theorem xDI.start {B a : Nat} {σ : zSt} {p : zPc} {N : Nat → Int} (h : xrPic σ a p) (h0 : 0 < p.1) : xDI B σ p.1 p.2.1 N (σ (a + 1)) 0 (zbec σ (B + 2) (B + 3) a (a + 1)) := by
  have e := zbec_1 σ (a := B + 2) (sa := B + 3) (b := a) (sb := a + 1) (by omega)
  have hw := h.wh h0
  have hn := zz_wh (w := p.1) (h := p.2.1) (by omega) (by omega)
  refine ⟨xScr.bec, by rw [zbec_o _ (by omega) (by omega)], by rw [e.1]; exact hw.1.1, by rw [e.2]; exact hw.1.2, fun j hj => by omega, fun j _ hj => ?_⟩
  unfold zbec
  rw [zr_eq, if_pos (by omega)]
theorem xDI.pic {B i : Nat} {σr σs : zSt} {w h : Int} {N O : Nat → Int} {F : Int → Int → Int} (hl : xDI B σr w h N O i σs) (hi : w * h ≤ i) (hw : 1 ≤ w ∧ w ≤ 16) (hh : 1 ≤ h ∧ h ≤ 12) (hF : ∀ x y : Int, 0 ≤ x ∧ x < w → 0 ≤ y ∧ y < h → N (y * w + x).toNat = F x y ∧ 0 ≤ F x y ∧ F x y ≤ 255) : xrPic σs (B + 2) (w, h, F) := by
  obtain ⟨h1, h2, h3, h4, h5, h6⟩ := hl
  refine ⟨by unfold zPW; omega, h3, fun _ => ⟨h4, hh.1, fun x y hx hy => ?_⟩⟩
  have i1 := zz_ix hx hy hw.2 hh.2
  have := hF x y hx hy
  simp only at i1
  exact ⟨(h5 _ (by simp only; omega)).trans this.1, this.2⟩
