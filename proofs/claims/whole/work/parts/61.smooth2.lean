theorem xSmo {B : Nat} {σ σ' : zSt} (f : ∀ c, (c < B + 2 ∨ B + 3 < c) → (c < B + 57 ∨ B + 64 < c) → σ' c = σ c) : xScr B σ σ' := ⟨fun k hk => by rw [f B (by omega) (by omega)], fun b h1 h2 h3 => f b (by omega) (by omega)⟩
theorem aOth_r {p q : zPc} (hp : (1 ≤ p.1 ∧ p.1 ≤ 16) ∧ 1 ≤ p.2.1 ∧ p.2.1 ≤ 12) : 0 ≤ aOth p q ∧ aOth p q ≤ 192 := by
  have := zsumD_r (M := 1) (f := fun x y => if p.2.2 x y = q.2.2 x y then 0 else 1) (by omega) (show 0 < p.2.1 ∧ p.2.1 ≤ 12 by omega) (by omega) (w := p.1) (fun x y hx hy => by split <;> omega)
  exact this
theorem aEdge_r {p q : zPc} {t : Int} (hp : (1 ≤ p.1 ∧ p.1 ≤ 16) ∧ 1 ≤ p.2.1 ∧ p.2.1 ≤ 12) : 0 ≤ aEdge p q t ∧ aEdge p q t ≤ 384 := by
  have := zsumD_r (M := 2) (f := fun x y => (if t ≤ zStR p x y ∧ t ≤ zStR q x y then 1 else 0) + (if t ≤ zStD p x y ∧ t ≤ zStD q x y then 1 else 0)) (by omega) (show 0 < p.2.1 ∧ p.2.1 ≤ 12 by omega) (by omega) (w := p.1) (fun x y hx hy => by (repeat' split) <;> omega)
  have e : aEdge p q t = zsumD p.1 p.2.1 (fun x y => (if t ≤ zStR p x y ∧ t ≤ zStR q x y then 1 else 0) + (if t ≤ zStD p x y ∧ t ≤ zStD q x y then 1 else 0)) := zwin_cong (fun x y hx hy a => by rw [Int.add_assoc])
  rw [e]; omega
theorem c_othersP {G : zG} {S : zSh} {σ τ : zSt} {a b : Nat} {p q : zPc} (ha : zPic S a (a + 1)) (hb : zPic S b (b + 1)) (hw : xrPic σ a p) (hq : xrPic σ b q) (h0 : 0 < p.1) (e1 : p.1 = q.1) (e2 : p.2.1 = q.2.1) : zC G M_X10_othersIn [.ref a, .ref b] (S, σ, τ) (zR (some (vi (aOth p q))) (S, σ, τ)) := by
  have sd1 := hw.sd h0
  have sd2 := hq.sd (by omega)
  have w1 := hw.wh h0
  have w2 := hq.wh (by omega)
  rw [w2.1.1, w2.1.2, ← e1, ← e2, ← w1.1.1, ← w1.1.2] at sd2
  rw [← aOth_eq hw hq h0 e1 e2]
  exact c_othersIn ha hb hw.1 (fun j hj => ⟨sd1 j hj, sd2 j hj⟩)
def sp_smooth (A : zA) (to of gu s r n : Int) : Int × zA := aAns (if aPl to then if aTold A of then if aTold A gu then if (1 ≤ s ∧ s ≤ 8) ∧ 8 ≤ r ∧ r ≤ 128 then if 0 ≤ n ∧ n ≤ 3 then if aLike A of gu then 0 else 5 else 2 else 2 else 1 else 1 else 1) (-1) A (aOth (aSmo (A.1 of.toNat) (A.1 gu.toNat) s r n) (A.1 of.toNat), aAct A to.toNat (aSmo (A.1 of.toNat) (A.1 gu.toNat) s r n))
theorem X_smooth {G : zG} {B : Nat} {σ τ : zSt} {A : zA} {to of gu s r n : Int} (h : zxR B σ τ A) (hto : -2147483648 ≤ to ∧ to ≤ 2147483647) (hof : -2147483648 ≤ of ∧ of ≤ 2147483647) (hgu : -2147483648 ≤ gu ∧ gu ≤ 2147483647) (hs : -2147483648 ≤ s ∧ s ≤ 2147483647) (hr : -2147483648 ≤ r ∧ r ≤ 2147483647) (hn : -2147483648 ≤ n ∧ n ≤ 2147483647) : zC G M_X10_smooth [.ref B, vi to, vi of, vi gu, vi s, vi r, vi n] (zxS B, σ, τ) (xQ B (sp_smooth A to of gu s r n)) := by
  refine zC_of 0 rfl (Nat.le_of_ble_eq_true rfl) ?_
  have J : ∀ v : Int, v = (if aPl to then if aTold A of then if aTold A gu then if (1 ≤ s ∧ s ≤ 8) ∧ 8 ≤ r ∧ r ≤ 128 then if 0 ≤ n ∧ n ≤ 3 then if aLike A of gu then 0 else 5 else 2 else 2 else 1 else 1 else 1) → zW G M_X10_smooth (xQ B (sp_smooth A to of gu s r n)) 64 [some (.ref B), some (vi to), some (vi of), some (vi gu), some (vi s), some (vi r), some (vi n)] [vi v, .ref B] (zxS B, σ, τ) := by
    intro v hv

    refine zw_cVi1 67 rfl dX10_smooth_64 kX10_smooth_105 (Nat.le_of_ble_eq_true rfl) (by first | assumption | exact zx_o0 | exact zx_o _ _ _ rfl) (c_refused (by rw [hv]; (repeat' split) <;> omega)) ?_
    refine zw_if_eqB 72 70 rfl dX10_smooth_67 (by decide) (fun h_67 => ?_) (fun h_67 => ?_)
    · have hc1 : aPl to := Decidable.byContradiction fun q => by rw [if_neg q] at hv; (try split at hv) <;> omega
      rw [if_pos hc1] at hv
      have hc2 : aTold A of := Decidable.byContradiction fun q => by rw [if_neg q] at hv; (try split at hv) <;> omega
      rw [if_pos hc2] at hv
      have hc3 : aTold A gu := Decidable.byContradiction fun q => by rw [if_neg q] at hv; (try split at hv) <;> omega
      rw [if_pos hc3] at hv
      have hc4 : (1 ≤ s ∧ s ≤ 8) ∧ 8 ≤ r ∧ r ≤ 128 := Decidable.byContradiction fun q => by rw [if_neg q] at hv; (try split at hv) <;> omega
      rw [if_pos hc4] at hv
      have hc5 : 0 ≤ n ∧ n ≤ 3 := Decidable.byContradiction fun q => by rw [if_neg q] at hv; (try split at hv) <;> omega
      rw [if_pos hc5] at hv
      have hc6 : aLike A of gu := Decidable.byContradiction fun q => by rw [if_neg q] at hv; (try split at hv) <;> omega
      rw [if_pos hc6] at hv
      subst hv
      have hP1 := (xScr.z (v := 0)).P h.p of.toNat (by omega)
      have hP2 := (xScr.z (v := 0)).P h.p gu.toNat (by omega)
      have hq1 := (zx_p6 (B := B) (i := of.toNat) (by omega))
      have hq2 := (zx_p6 (B := B) (i := gu.toNat) (by omega))
      refine zw_aload_n 73 rfl dX10_smooth_72 rfl ?_
      refine zw_aload_n 74 rfl dX10_smooth_73 rfl ?_
      refine zw_getr 77 rfl dX10_smooth_74 fl_X10_11 (by first | assumption | exact zx_o0 | exact zx_o _ _ _ rfl) (by first | assumption | exact zx_f0 _ _ rfl | exact zx_f _ _ _ rfl) ?_
      refine zw_iload_n 78 rfl dX10_smooth_77 rfl ?_
      refine zw_aald 79 rfl dX10_smooth_78 (by first | assumption | exact zx_o0 | exact zx_o _ _ _ rfl) (by omega) (by omega) (by first | assumption | exact zx_p6r (by omega)) ?_
      refine zw_aload_n 80 rfl dX10_smooth_79 rfl ?_
      refine zw_getr 83 rfl dX10_smooth_80 fl_X10_11 (by first | assumption | exact zx_o0 | exact zx_o _ _ _ rfl) (by first | assumption | exact zx_f0 _ _ rfl | exact zx_f _ _ _ rfl) ?_
      refine zw_iload_n 84 rfl dX10_smooth_83 rfl ?_
      refine zw_aald 85 rfl dX10_smooth_84 (by first | assumption | exact zx_o0 | exact zx_o _ _ _ rfl) (by omega) (by omega) (by first | assumption | exact zx_p6r (by omega)) ?_
      refine zw_iload 87 rfl dX10_smooth_85 rfl ?_
      refine zw_iload 89 rfl dX10_smooth_87 rfl ?_
      refine zw_iload 91 rfl dX10_smooth_89 rfl ?_
      refine zw_cVr5 94 rfl dX10_smooth_91 kX10_smooth_296 (Nat.le_of_ble_eq_true rfl) (by first | assumption | exact zx_o0 | exact zx_o _ _ _ rfl) (c_smoothToWork hq1 hq2 hP1 hP2 hc2.2 hc6.1.symm hc6.2.symm (by simp only [zpa]; omega) (by simp only [zpa]; omega) hc4.1 hc4.2 hc5) ?_
      rintro _ _ ⟨rfl, σ2, τ2, rfl, f1, f2, f3⟩
      have hs2 : xScr B σ σ2 := (xScr.z (v := 0)).tr (xSmo f1)
      have h17 : σ2 B 17 = 0 := by rw [f1 B (by omega) (by omega)]; exact zu_eq _ _ _ _
      have ht2 : τ2 (B + 56) = τ (B + 56) := f2 _ (by omega)
      refine zw_aload_n 95 rfl dX10_smooth_94 rfl ?_
      refine zw_iload_n 96 rfl dX10_smooth_95 rfl ?_
      refine zw_iload_n 97 rfl dX10_smooth_96 rfl ?_
      refine zw_cVr2 100 rfl dX10_smooth_97 kX10_smooth_220 (Nat.le_of_ble_eq_true rfl) (by first | assumption | exact zx_o0 | exact zx_o _ _ _ rfl) (c_actCO (hs2.P h.p) (hs2.H h.hs) f3 hc1 hc2.1 hc2.2 rfl rfl) ?_
      rintro _ _ ⟨rfl, σ3, rfl, hA⟩
      exact zw_iret (st := []) dX10_smooth_100 rfl (xGood (σ := σ) (τ := τ) (by simp only [if_pos hc1, if_pos hc2, if_pos hc3, if_pos hc4, if_pos hc5, if_pos hc6]) rfl (h.act hs2 ht2 h17 hA (by omega)))
    · refine zw_iconst 71 rfl dX10_smooth_70 ?_
      subst hv
      exact zw_iret (st := []) dX10_smooth_71 rfl (xRef h h_67 (by (repeat' split) <;> omega))
  refine zw_aload_n 1 rfl dX10_smooth_0 rfl ?_
  refine zw_iload_n 2 rfl dX10_smooth_1 rfl ?_
  refine zw_cSi1 5 rfl dX10_smooth_2 kX10_smooth_191 (Nat.le_of_ble_eq_true rfl) (c_isPlace hto) ?_
  refine zw_if_eqB 24 8 rfl dX10_smooth_5 (by decide) (fun h_5 => ?_) (fun h_5 => ?_)
  · refine zw_iconst 25 rfl dX10_smooth_24 ?_
    refine zw_goto 64 dX10_smooth_25 (by decide) ?_
    exact J _ (by first | (simp only [if_neg h_5]; done) | (simp only [if_pos h_5, if_pos h_13, if_pos h_21, if_pos h_35, if_pos h_43]; rw [if_pos h_56.2.2]) | (simp only [if_pos h_5, if_pos h_13, if_pos h_21, if_pos h_35, if_pos h_43]; rw [if_neg (fun q => h_56 ⟨h_13, h_21, q⟩)]))
  · refine zw_aload_n 9 rfl dX10_smooth_8 rfl ?_
    refine zw_iload_n 10 rfl dX10_smooth_9 rfl ?_
    refine zw_cVi1 13 rfl dX10_smooth_10 kX10_smooth_145 (Nat.le_of_ble_eq_true rfl) (by first | assumption | exact zx_o0 | exact zx_o _ _ _ rfl) (c_told h.p hof) ?_
    refine zw_if_eqB 24 16 rfl dX10_smooth_13 (by decide) (fun h_13 => ?_) (fun h_13 => ?_)
    · refine zw_iconst 25 rfl dX10_smooth_24 ?_
      refine zw_goto 64 dX10_smooth_25 (by decide) ?_
      exact J _ (by first | (simp only [if_pos h_5, if_neg h_13]; done) | (simp only [if_pos h_5, if_pos h_13, if_pos h_21, if_pos h_35, if_pos h_43]; rw [if_pos h_56.2.2]) | (simp only [if_pos h_5, if_pos h_13, if_pos h_21, if_pos h_35, if_pos h_43]; rw [if_neg (fun q => h_56 ⟨h_13, h_21, q⟩)]))
    · refine zw_aload_n 17 rfl dX10_smooth_16 rfl ?_
      refine zw_iload_n 18 rfl dX10_smooth_17 rfl ?_
      refine zw_cVi1 21 rfl dX10_smooth_18 kX10_smooth_145 (Nat.le_of_ble_eq_true rfl) (by first | assumption | exact zx_o0 | exact zx_o _ _ _ rfl) (c_told h.p hgu) ?_
      refine zw_if_neB 28 24 rfl dX10_smooth_21 (by decide) (fun h_21 => ?_) (fun h_21 => ?_)
      · refine zw_iload 30 rfl dX10_smooth_28 rfl ?_
        refine zw_iload 32 rfl dX10_smooth_30 rfl ?_
        refine zw_cSi2 35 rfl dX10_smooth_32 kX10_smooth_227 (Nat.le_of_ble_eq_true rfl) (c_isGridSize hs hr) ?_
        refine zw_if_eqB 46 38 rfl dX10_smooth_35 (by decide) (fun h_35 => ?_) (fun h_35 => ?_)
        · refine zw_iconst 47 rfl dX10_smooth_46 ?_
          refine zw_goto 64 dX10_smooth_47 (by decide) ?_
          exact J _ (by first | (simp only [if_pos h_5, if_pos h_13, if_pos h_21, if_neg h_35]; done) | (simp only [if_pos h_5, if_pos h_13, if_pos h_21, if_pos h_35, if_pos h_43]; rw [if_pos h_56.2.2]) | (simp only [if_pos h_5, if_pos h_13, if_pos h_21, if_pos h_35, if_pos h_43]; rw [if_neg (fun q => h_56 ⟨h_13, h_21, q⟩)]))
        · refine zw_iload 40 rfl dX10_smooth_38 rfl ?_
          refine zw_cSi1 43 rfl dX10_smooth_40 kX10_smooth_293 (Nat.le_of_ble_eq_true rfl) (c_isBlurs hn) ?_
          refine zw_if_neB 50 46 rfl dX10_smooth_43 (by decide) (fun h_43 => ?_) (fun h_43 => ?_)
          · refine zw_aload_n 51 rfl dX10_smooth_50 rfl ?_
            refine zw_iload_n 52 rfl dX10_smooth_51 rfl ?_
            refine zw_iload_n 53 rfl dX10_smooth_52 rfl ?_
            refine zw_cVi2 56 rfl dX10_smooth_53 kX10_smooth_231 (Nat.le_of_ble_eq_true rfl) (by first | assumption | exact zx_o0 | exact zx_o _ _ _ rfl) (c_alike h.p hof hgu) ?_
            refine zw_if_neB 63 59 rfl dX10_smooth_56 (by decide) (fun h_56 => ?_) (fun h_56 => ?_)
            · refine zw_iconst 64 rfl dX10_smooth_63 ?_
              exact J _ (by first | (simp only [if_pos h_5, if_pos h_13, if_pos h_21, if_pos h_35, if_pos h_43, if_pos h_56]; done) | (simp only [if_pos h_5, if_pos h_13, if_pos h_21, if_pos h_35, if_pos h_43]; rw [if_pos h_56.2.2]) | (simp only [if_pos h_5, if_pos h_13, if_pos h_21, if_pos h_35, if_pos h_43]; rw [if_neg (fun q => h_56 ⟨h_13, h_21, q⟩)]))
            · refine zw_iconst 60 rfl dX10_smooth_59 ?_
              refine zw_goto 64 dX10_smooth_60 (by decide) ?_
              exact J _ (by first | (simp only [if_pos h_5, if_pos h_13, if_pos h_21, if_pos h_35, if_pos h_43, if_neg h_56]; done) | (simp only [if_pos h_5, if_pos h_13, if_pos h_21, if_pos h_35, if_pos h_43]; rw [if_pos h_56.2.2]) | (simp only [if_pos h_5, if_pos h_13, if_pos h_21, if_pos h_35, if_pos h_43]; rw [if_neg (fun q => h_56 ⟨h_13, h_21, q⟩)]))
          · refine zw_iconst 47 rfl dX10_smooth_46 ?_
            refine zw_goto 64 dX10_smooth_47 (by decide) ?_
            exact J _ (by first | (simp only [if_pos h_5, if_pos h_13, if_pos h_21, if_pos h_35, if_neg h_43]; done) | (simp only [if_pos h_5, if_pos h_13, if_pos h_21, if_pos h_35, if_pos h_43]; rw [if_pos h_56.2.2]) | (simp only [if_pos h_5, if_pos h_13, if_pos h_21, if_pos h_35, if_pos h_43]; rw [if_neg (fun q => h_56 ⟨h_13, h_21, q⟩)]))
      · refine zw_iconst 25 rfl dX10_smooth_24 ?_
        refine zw_goto 64 dX10_smooth_25 (by decide) ?_
        exact J _ (by first | (simp only [if_pos h_5, if_pos h_13, if_neg h_21]; done) | (simp only [if_pos h_5, if_pos h_13, if_pos h_21, if_pos h_35, if_pos h_43]; rw [if_pos h_56.2.2]) | (simp only [if_pos h_5, if_pos h_13, if_pos h_21, if_pos h_35, if_pos h_43]; rw [if_neg (fun q => h_56 ⟨h_13, h_21, q⟩)]))
def sp_kept (A : zA) (of gu s r n t : Int) : Int × zA := aAns (if aTold A of then if aTold A gu then if (1 ≤ s ∧ s ≤ 8) ∧ 8 ≤ r ∧ r ≤ 128 then if 0 ≤ n ∧ n ≤ 3 then if 0 ≤ t ∧ t ≤ 255 then if aLike A of gu then 0 else 5 else 2 else 2 else 2 else 1 else 1) (-1) A (aEdge (A.1 of.toNat) (aSmo (A.1 of.toNat) (A.1 gu.toNat) s r n) t, A)
theorem X_kept {G : zG} {B : Nat} {σ τ : zSt} {A : zA} {of gu s r n t : Int} (h : zxR B σ τ A) (hof : -2147483648 ≤ of ∧ of ≤ 2147483647) (hgu : -2147483648 ≤ gu ∧ gu ≤ 2147483647) (hs : -2147483648 ≤ s ∧ s ≤ 2147483647) (hr : -2147483648 ≤ r ∧ r ≤ 2147483647) (hn : -2147483648 ≤ n ∧ n ≤ 2147483647) (ht : -2147483648 ≤ t ∧ t ≤ 2147483647) : zC G M_X10_kept [.ref B, vi of, vi gu, vi s, vi r, vi n, vi t] (zxS B, σ, τ) (xQ B (sp_kept A of gu s r n t)) := by
  refine zC_of 0 rfl (Nat.le_of_ble_eq_true rfl) ?_
  have J : ∀ v : Int, v = (if aTold A of then if aTold A gu then if (1 ≤ s ∧ s ≤ 8) ∧ 8 ≤ r ∧ r ≤ 128 then if 0 ≤ n ∧ n ≤ 3 then if 0 ≤ t ∧ t ≤ 255 then if aLike A of gu then 0 else 5 else 2 else 2 else 2 else 1 else 1) → zW G M_X10_kept (xQ B (sp_kept A of gu s r n t)) 64 [some (.ref B), some (vi of), some (vi gu), some (vi s), some (vi r), some (vi n), some (vi t)] [vi v, .ref B] (zxS B, σ, τ) := by
    intro v hv

    refine zw_cVi1 67 rfl dX10_kept_64 kX10_kept_105 (Nat.le_of_ble_eq_true rfl) (by first | assumption | exact zx_o0 | exact zx_o _ _ _ rfl) (c_refused (by rw [hv]; (repeat' split) <;> omega)) ?_
    refine zw_if_eqB 72 70 rfl dX10_kept_67 (by decide) (fun h_67 => ?_) (fun h_67 => ?_)
    · have hc1 : aTold A of := Decidable.byContradiction fun q => by rw [if_neg q] at hv; (try split at hv) <;> omega
      rw [if_pos hc1] at hv
      have hc2 : aTold A gu := Decidable.byContradiction fun q => by rw [if_neg q] at hv; (try split at hv) <;> omega
      rw [if_pos hc2] at hv
      have hc3 : (1 ≤ s ∧ s ≤ 8) ∧ 8 ≤ r ∧ r ≤ 128 := Decidable.byContradiction fun q => by rw [if_neg q] at hv; (try split at hv) <;> omega
      rw [if_pos hc3] at hv
      have hc4 : 0 ≤ n ∧ n ≤ 3 := Decidable.byContradiction fun q => by rw [if_neg q] at hv; (try split at hv) <;> omega
      rw [if_pos hc4] at hv
      have hc5 : 0 ≤ t ∧ t ≤ 255 := Decidable.byContradiction fun q => by rw [if_neg q] at hv; (try split at hv) <;> omega
      rw [if_pos hc5] at hv
      have hc6 : aLike A of gu := Decidable.byContradiction fun q => by rw [if_neg q] at hv; (try split at hv) <;> omega
      rw [if_pos hc6] at hv
      subst hv
      have hP1 := (xScr.z (v := 0)).P h.p of.toNat (by omega)
      have hP2 := (xScr.z (v := 0)).P h.p gu.toNat (by omega)
      have hq1 := (zx_p6 (B := B) (i := of.toNat) (by omega))
      have hq2 := (zx_p6 (B := B) (i := gu.toNat) (by omega))
      refine zw_aload_n 73 rfl dX10_kept_72 rfl ?_
      refine zw_aload_n 74 rfl dX10_kept_73 rfl ?_
      refine zw_getr 77 rfl dX10_kept_74 fl_X10_11 (by first | assumption | exact zx_o0 | exact zx_o _ _ _ rfl) (by first | assumption | exact zx_f0 _ _ rfl | exact zx_f _ _ _ rfl) ?_
      refine zw_iload_n 78 rfl dX10_kept_77 rfl ?_
      refine zw_aald 79 rfl dX10_kept_78 (by first | assumption | exact zx_o0 | exact zx_o _ _ _ rfl) (by omega) (by omega) (by first | assumption | exact zx_p6r (by omega)) ?_
      refine zw_aload_n 80 rfl dX10_kept_79 rfl ?_
      refine zw_getr 83 rfl dX10_kept_80 fl_X10_11 (by first | assumption | exact zx_o0 | exact zx_o _ _ _ rfl) (by first | assumption | exact zx_f0 _ _ rfl | exact zx_f _ _ _ rfl) ?_
      refine zw_iload_n 84 rfl dX10_kept_83 rfl ?_
      refine zw_aald 85 rfl dX10_kept_84 (by first | assumption | exact zx_o0 | exact zx_o _ _ _ rfl) (by omega) (by omega) (by first | assumption | exact zx_p6r (by omega)) ?_
      refine zw_iload_n 86 rfl dX10_kept_85 rfl ?_
      refine zw_iload 88 rfl dX10_kept_86 rfl ?_
      refine zw_iload 90 rfl dX10_kept_88 rfl ?_
      refine zw_cVr5 93 rfl dX10_kept_90 kX10_kept_296 (Nat.le_of_ble_eq_true rfl) (by first | assumption | exact zx_o0 | exact zx_o _ _ _ rfl) (c_smoothToWork hq1 hq2 hP1 hP2 hc1.2 hc6.1.symm hc6.2.symm (by simp only [zpa]; omega) (by simp only [zpa]; omega) hc3.1 hc3.2 hc4) ?_
      rintro _ _ ⟨rfl, σ2, τ2, rfl, f1, f2, f3⟩
      have hs2 : xScr B σ σ2 := (xScr.z (v := 0)).tr (xSmo f1)
      have h17 : σ2 B 17 = 0 := by rw [f1 B (by omega) (by omega)]; exact zu_eq _ _ _ _
      have ht2 : τ2 (B + 56) = τ (B + 56) := f2 _ (by omega)
      refine zw_aload_n 94 rfl dX10_kept_93 rfl ?_
      refine zw_getr 97 rfl dX10_kept_94 fl_X10_11 (by first | assumption | exact zx_o0 | exact zx_o _ _ _ rfl) (by first | assumption | exact zx_f0 _ _ rfl | exact zx_f _ _ _ rfl) ?_
      refine zw_iload_n 98 rfl dX10_kept_97 rfl ?_
      refine zw_aald 99 rfl dX10_kept_98 (by first | assumption | exact zx_o0 | exact zx_o _ _ _ rfl) (by omega) (by omega) (by first | assumption | exact zx_p6r (by omega)) ?_
      refine zw_aload_n 100 rfl dX10_kept_99 rfl ?_
      refine zw_getr 103 rfl dX10_kept_100 fl_X10_16 (by first | assumption | exact zx_o0 | exact zx_o _ _ _ rfl) (by first | assumption | exact zx_f0 _ _ rfl | exact zx_f _ _ _ rfl) ?_
      refine zw_iload 105 rfl dX10_kept_103 rfl ?_
      refine zw_cSi3 108 rfl dX10_kept_105 kX10_kept_320 (Nat.le_of_ble_eq_true rfl) (c_edgesOfBoth hq1 (hs2.P h.p of.toNat (by omega)) hc1.2 zx_work f3 hc1.2 (by omega)) ?_
      exact zw_iret (st := []) dX10_kept_108 rfl (xRead h (by simp only [if_pos hc1, if_pos hc2, if_pos hc3, if_pos hc4, if_pos hc5, if_pos hc6]) hs2 ht2 h17 rfl rfl)
    · refine zw_iconst 71 rfl dX10_kept_70 ?_
      subst hv
      exact zw_iret (st := []) dX10_kept_71 rfl (xRef h h_67 (by (repeat' split) <;> omega))
  refine zw_aload_n 1 rfl dX10_kept_0 rfl ?_
  refine zw_aload_n 2 rfl dX10_kept_1 rfl ?_
  refine zw_iload_n 3 rfl dX10_kept_2 rfl ?_
  refine zw_cVi1 6 rfl dX10_kept_3 kX10_kept_145 (Nat.le_of_ble_eq_true rfl) (by first | assumption | exact zx_o0 | exact zx_o _ _ _ rfl) (c_told h.p hof) ?_
  refine zw_if_eqB 17 9 rfl dX10_kept_6 (by decide) (fun h_6 => ?_) (fun h_6 => ?_)
  · refine zw_iconst 18 rfl dX10_kept_17 ?_
    refine zw_goto 64 dX10_kept_18 (by decide) ?_
    exact J _ (by first | (simp only [if_neg h_6]; done) | (simp only [if_pos h_6, if_pos h_14, if_pos h_27, if_pos h_35, if_pos h_43]; rw [if_pos h_56.2.2]) | (simp only [if_pos h_6, if_pos h_14, if_pos h_27, if_pos h_35, if_pos h_43]; rw [if_neg (fun q => h_56 ⟨h_6, h_14, q⟩)]))
  · refine zw_aload_n 10 rfl dX10_kept_9 rfl ?_
    refine zw_iload_n 11 rfl dX10_kept_10 rfl ?_
    refine zw_cVi1 14 rfl dX10_kept_11 kX10_kept_145 (Nat.le_of_ble_eq_true rfl) (by first | assumption | exact zx_o0 | exact zx_o _ _ _ rfl) (c_told h.p hgu) ?_
    refine zw_if_neB 21 17 rfl dX10_kept_14 (by decide) (fun h_14 => ?_) (fun h_14 => ?_)
    · refine zw_iload_n 22 rfl dX10_kept_21 rfl ?_
      refine zw_iload 24 rfl dX10_kept_22 rfl ?_
      refine zw_cSi2 27 rfl dX10_kept_24 kX10_kept_227 (Nat.le_of_ble_eq_true rfl) (c_isGridSize hs hr) ?_
      refine zw_if_eqB 46 30 rfl dX10_kept_27 (by decide) (fun h_27 => ?_) (fun h_27 => ?_)
      · refine zw_iconst 47 rfl dX10_kept_46 ?_
        refine zw_goto 64 dX10_kept_47 (by decide) ?_
        exact J _ (by first | (simp only [if_pos h_6, if_pos h_14, if_neg h_27]; done) | (simp only [if_pos h_6, if_pos h_14, if_pos h_27, if_pos h_35, if_pos h_43]; rw [if_pos h_56.2.2]) | (simp only [if_pos h_6, if_pos h_14, if_pos h_27, if_pos h_35, if_pos h_43]; rw [if_neg (fun q => h_56 ⟨h_6, h_14, q⟩)]))
      · refine zw_iload 32 rfl dX10_kept_30 rfl ?_
        refine zw_cSi1 35 rfl dX10_kept_32 kX10_kept_293 (Nat.le_of_ble_eq_true rfl) (c_isBlurs hn) ?_
        refine zw_if_eqB 46 38 rfl dX10_kept_35 (by decide) (fun h_35 => ?_) (fun h_35 => ?_)
        · refine zw_iconst 47 rfl dX10_kept_46 ?_
          refine zw_goto 64 dX10_kept_47 (by decide) ?_
          exact J _ (by first | (simp only [if_pos h_6, if_pos h_14, if_pos h_27, if_neg h_35]; done) | (simp only [if_pos h_6, if_pos h_14, if_pos h_27, if_pos h_35, if_pos h_43]; rw [if_pos h_56.2.2]) | (simp only [if_pos h_6, if_pos h_14, if_pos h_27, if_pos h_35, if_pos h_43]; rw [if_neg (fun q => h_56 ⟨h_6, h_14, q⟩)]))
        · refine zw_iload 40 rfl dX10_kept_38 rfl ?_
          refine zw_cSi1 43 rfl dX10_kept_40 kX10_kept_178 (Nat.le_of_ble_eq_true rfl) (c_isShade ht) ?_
          refine zw_if_neB 50 46 rfl dX10_kept_43 (by decide) (fun h_43 => ?_) (fun h_43 => ?_)
          · refine zw_aload_n 51 rfl dX10_kept_50 rfl ?_
            refine zw_iload_n 52 rfl dX10_kept_51 rfl ?_
            refine zw_iload_n 53 rfl dX10_kept_52 rfl ?_
            refine zw_cVi2 56 rfl dX10_kept_53 kX10_kept_231 (Nat.le_of_ble_eq_true rfl) (by first | assumption | exact zx_o0 | exact zx_o _ _ _ rfl) (c_alike h.p hof hgu) ?_
            refine zw_if_neB 63 59 rfl dX10_kept_56 (by decide) (fun h_56 => ?_) (fun h_56 => ?_)
            · refine zw_iconst 64 rfl dX10_kept_63 ?_
              exact J _ (by first | (simp only [if_pos h_6, if_pos h_14, if_pos h_27, if_pos h_35, if_pos h_43, if_pos h_56]; done) | (simp only [if_pos h_6, if_pos h_14, if_pos h_27, if_pos h_35, if_pos h_43]; rw [if_pos h_56.2.2]) | (simp only [if_pos h_6, if_pos h_14, if_pos h_27, if_pos h_35, if_pos h_43]; rw [if_neg (fun q => h_56 ⟨h_6, h_14, q⟩)]))
            · refine zw_iconst 60 rfl dX10_kept_59 ?_
              refine zw_goto 64 dX10_kept_60 (by decide) ?_
              exact J _ (by first | (simp only [if_pos h_6, if_pos h_14, if_pos h_27, if_pos h_35, if_pos h_43, if_neg h_56]; done) | (simp only [if_pos h_6, if_pos h_14, if_pos h_27, if_pos h_35, if_pos h_43]; rw [if_pos h_56.2.2]) | (simp only [if_pos h_6, if_pos h_14, if_pos h_27, if_pos h_35, if_pos h_43]; rw [if_neg (fun q => h_56 ⟨h_6, h_14, q⟩)]))
          · refine zw_iconst 47 rfl dX10_kept_46 ?_
            refine zw_goto 64 dX10_kept_47 (by decide) ?_
            exact J _ (by first | (simp only [if_pos h_6, if_pos h_14, if_pos h_27, if_pos h_35, if_neg h_43]; done) | (simp only [if_pos h_6, if_pos h_14, if_pos h_27, if_pos h_35, if_pos h_43]; rw [if_pos h_56.2.2]) | (simp only [if_pos h_6, if_pos h_14, if_pos h_27, if_pos h_35, if_pos h_43]; rw [if_neg (fun q => h_56 ⟨h_6, h_14, q⟩)]))
    · refine zw_iconst 18 rfl dX10_kept_17 ?_
      refine zw_goto 64 dX10_kept_18 (by decide) ?_
      exact J _ (by first | (simp only [if_pos h_6, if_neg h_14]; done) | (simp only [if_pos h_6, if_pos h_14, if_pos h_27, if_pos h_35, if_pos h_43]; rw [if_pos h_56.2.2]) | (simp only [if_pos h_6, if_pos h_14, if_pos h_27, if_pos h_35, if_pos h_43]; rw [if_neg (fun q => h_56 ⟨h_6, h_14, q⟩)]))
def aFlat (p : zPc) (s r t : Int) : Nat → Int → Int
  | 0, _ => -2
  | m + 1, n => if aEdge (aSmo p p s r n) (aSmo p p s r n) t = 0 then n else aFlat p s r t m (n + 1)
def sp_flat (A : zA) (of s r t : Int) : Int × zA := aAns (if aTold A of then if (1 ≤ s ∧ s ≤ 8) ∧ 8 ≤ r ∧ r ≤ 128 then if 1 ≤ t ∧ t ≤ 255 then 0 else 2 else 2 else 1) (-1) A (aFlat (A.1 of.toNat) s r t 4 0, A)
theorem X_flat {G : zG} {B : Nat} {σ τ : zSt} {A : zA} {of s r t : Int} (h : zxR B σ τ A) (hof : -2147483648 ≤ of ∧ of ≤ 2147483647) (hs : -2147483648 ≤ s ∧ s ≤ 2147483647) (hr : -2147483648 ≤ r ∧ r ≤ 2147483647) (ht : -2147483648 ≤ t ∧ t ≤ 2147483647) : zC G M_X10_flat [.ref B, vi of, vi s, vi r, vi t] (zxS B, σ, τ) (xQ B (sp_flat A of s r t)) := by
  refine zC_of 1 rfl (Nat.le_of_ble_eq_true rfl) ?_
  have loop : aTold A of → (1 ≤ s ∧ s ≤ 8) ∧ 8 ≤ r ∧ r ≤ 128 → (1 ≤ t ∧ t ≤ 255) → ∀ (m k : Nat) (σs τs : zSt), m + k = 4 → aFlat (A.1 of.toNat) s r t m k = aFlat (A.1 of.toNat) s r t 4 0 → xScr B σ σs → σs B 17 = 0 → τs (B + 56) = τ (B + 56) → zW G M_X10_flat (xQ B (sp_flat A of s r t)) 49 [some (.ref B), some (vi of), some (vi s), some (vi r), some (vi t), some (vi k)] [] (zxS B, σs, τs) := by
    intro hc1 hc2 hc3 m
    induction m with
    | zero =>
      intro k σs τs hk he hs h17 ht
      refine zw_iload 51 rfl dX10_flat_49 rfl ?_
      refine zw_iconst 52 rfl dX10_flat_51 ?_
      refine zw_icmp_gt 100 55 rfl dX10_flat_52 (by decide) (by omega) (by omega) (fun h_52 => ?_) (fun h_52 => ?_)
      · refine zw_bipush 102 rfl dX10_flat_100 rfl ?_
        exact zw_iret (st := []) dX10_flat_102 rfl (xRead h (by simp only [if_pos hc1, if_pos hc2, if_pos hc3]) hs ht h17 he rfl)
      · omega
    | succ m ih =>
      intro k σs τs hk he hs h17 ht
      have hP1 := hs.P h.p of.toNat (by omega)
      have hq1 := (zx_p6 (B := B) (i := of.toNat) (by omega))
      have her := aEdge_r (p := aSmo (A.1 of.toNat) (A.1 of.toNat) s r k) (q := aSmo (A.1 of.toNat) (A.1 of.toNat) s r k) (t := t) (hP1.wh hc1.2).2
      rw [aFlat] at he
      refine zw_iload 51 rfl dX10_flat_49 rfl ?_
      refine zw_iconst 52 rfl dX10_flat_51 ?_
      refine zw_icmp_gt 100 55 rfl dX10_flat_52 (by decide) (by omega) (by omega) (fun h_52 => ?_) (fun h_52 => ?_)
      · omega
      · refine zw_aload_n 56 rfl dX10_flat_55 rfl ?_
        refine zw_aload_n 57 rfl dX10_flat_56 rfl ?_
        refine zw_getr 60 rfl dX10_flat_57 fl_X10_11 (by first | assumption | exact zx_o0 | exact zx_o _ _ _ rfl) (by first | assumption | exact zx_f0 _ _ rfl | exact zx_f _ _ _ rfl) ?_
        refine zw_iload_n 61 rfl dX10_flat_60 rfl ?_
        refine zw_aald 62 rfl dX10_flat_61 (by first | assumption | exact zx_o0 | exact zx_o _ _ _ rfl) (by omega) (by omega) (by first | assumption | exact zx_p6r (by omega)) ?_
        refine zw_aload_n 63 rfl dX10_flat_62 rfl ?_
        refine zw_getr 66 rfl dX10_flat_63 fl_X10_11 (by first | assumption | exact zx_o0 | exact zx_o _ _ _ rfl) (by first | assumption | exact zx_f0 _ _ rfl | exact zx_f _ _ _ rfl) ?_
        refine zw_iload_n 67 rfl dX10_flat_66 rfl ?_
        refine zw_aald 68 rfl dX10_flat_67 (by first | assumption | exact zx_o0 | exact zx_o _ _ _ rfl) (by omega) (by omega) (by first | assumption | exact zx_p6r (by omega)) ?_
        refine zw_iload_n 69 rfl dX10_flat_68 rfl ?_
        refine zw_iload_n 70 rfl dX10_flat_69 rfl ?_
        refine zw_iload 72 rfl dX10_flat_70 rfl ?_
        refine zw_cVr5 75 rfl dX10_flat_72 kX10_flat_296 (Nat.le_of_ble_eq_true rfl) (by first | assumption | exact zx_o0 | exact zx_o _ _ _ rfl) (c_smoothToWork hq1 hq1 hP1 hP1 hc1.2 rfl rfl (by simp only [zpa]; omega) (by simp only [zpa]; omega) hc2.1 hc2.2 (by omega)) ?_
        rintro _ _ ⟨rfl, σ2, τ2, rfl, f1, f2, f3⟩
        have hs2 : xScr B σ σ2 := hs.tr (xSmo f1)
        have h17' : σ2 B 17 = 0 := by rw [f1 B (by omega) (by omega)]; exact h17
        have ht2 : τ2 (B + 56) = τ (B + 56) := by rw [f2 _ (by omega)]; exact ht
        refine zw_aload_n 76 rfl dX10_flat_75 rfl ?_
        refine zw_getr 79 rfl dX10_flat_76 fl_X10_16 (by first | assumption | exact zx_o0 | exact zx_o _ _ _ rfl) (by first | assumption | exact zx_f0 _ _ rfl | exact zx_f _ _ _ rfl) ?_
        refine zw_aload_n 80 rfl dX10_flat_79 rfl ?_
        refine zw_getr 83 rfl dX10_flat_80 fl_X10_16 (by first | assumption | exact zx_o0 | exact zx_o _ _ _ rfl) (by first | assumption | exact zx_f0 _ _ rfl | exact zx_f _ _ _ rfl) ?_
        refine zw_iload 85 rfl dX10_flat_83 rfl ?_
        refine zw_cSi3 88 rfl dX10_flat_85 kX10_flat_320 (Nat.le_of_ble_eq_true rfl) (c_edgesOfBoth zx_work f3 hc1.2 zx_work f3 hc1.2 (by omega)) ?_
        refine zw_if_ne 94 91 rfl dX10_flat_88 (by decide) (by omega) (fun h_88 => ?_) (fun h_88 => ?_)
        · refine zw_iinc 97 rfl dX10_flat_94 (Nat.le_of_ble_eq_true rfl) rfl rfl ?_
          refine zw_goto 49 dX10_flat_97 (by decide) ?_
          rw [if_neg h_88] at he
          exact ih (k + 1) _ _ (by omega) he hs2 h17' ht2
        · refine zw_iload 93 rfl dX10_flat_91 rfl ?_
          exact zw_iret (st := []) dX10_flat_93 rfl (xRead h (by simp only [if_pos hc1, if_pos hc2, if_pos hc3]) hs2 ht2 h17' (by rw [← he, if_pos h_88]) rfl)
  have J : ∀ v : Int, v = (if aTold A of then if (1 ≤ s ∧ s ≤ 8) ∧ 8 ≤ r ∧ r ≤ 128 then if 1 ≤ t ∧ t ≤ 255 then 0 else 2 else 2 else 1) → zW G M_X10_flat (xQ B (sp_flat A of s r t)) 38 [some (.ref B), some (vi of), some (vi s), some (vi r), some (vi t), none] [vi v, .ref B] (zxS B, σ, τ) := by
    intro v hv

    refine zw_cVi1 41 rfl dX10_flat_38 kX10_flat_105 (Nat.le_of_ble_eq_true rfl) (by first | assumption | exact zx_o0 | exact zx_o _ _ _ rfl) (c_refused (by rw [hv]; (repeat' split) <;> omega)) ?_
    refine zw_if_eqB 46 44 rfl dX10_flat_41 (by decide) (fun h_41 => ?_) (fun h_41 => ?_)
    · have hc1 : aTold A of := Decidable.byContradiction fun q => by rw [if_neg q] at hv; (try split at hv) <;> omega
      rw [if_pos hc1] at hv
      have hc2 : (1 ≤ s ∧ s ≤ 8) ∧ 8 ≤ r ∧ r ≤ 128 := Decidable.byContradiction fun q => by rw [if_neg q] at hv; (try split at hv) <;> omega
      rw [if_pos hc2] at hv
      have hc3 : 1 ≤ t ∧ t ≤ 255 := Decidable.byContradiction fun q => by rw [if_neg q] at hv; (try split at hv) <;> omega
      rw [if_pos hc3] at hv
      subst hv
      refine zw_iconst 47 rfl dX10_flat_46 ?_
      refine zw_istore 49 rfl dX10_flat_47 (Nat.le_of_ble_eq_true rfl) rfl ?_
      exact loop hc1 hc2 hc3 4 0 _ _ rfl rfl xScr.z (zu_eq _ _ _ _) rfl
    · refine zw_iconst 45 rfl dX10_flat_44 ?_
      subst hv
      exact zw_iret (st := []) dX10_flat_45 rfl (xRef h h_41 (by (repeat' split) <;> omega))
  refine zw_aload_n 1 rfl dX10_flat_0 rfl ?_
  refine zw_aload_n 2 rfl dX10_flat_1 rfl ?_
  refine zw_iload_n 3 rfl dX10_flat_2 rfl ?_
  refine zw_cVi1 6 rfl dX10_flat_3 kX10_flat_145 (Nat.le_of_ble_eq_true rfl) (by first | assumption | exact zx_o0 | exact zx_o _ _ _ rfl) (c_told h.p hof) ?_
  refine zw_if_neB 13 9 rfl dX10_flat_6 (by decide) (fun h_6 => ?_) (fun h_6 => ?_)
  · refine zw_iload_n 14 rfl dX10_flat_13 rfl ?_
    refine zw_iload_n 15 rfl dX10_flat_14 rfl ?_
    refine zw_cSi2 18 rfl dX10_flat_15 kX10_flat_227 (Nat.le_of_ble_eq_true rfl) (c_isGridSize hs hr) ?_
    refine zw_if_eqB 33 21 rfl dX10_flat_18 (by decide) (fun h_18 => ?_) (fun h_18 => ?_)
    · refine zw_iconst 34 rfl dX10_flat_33 ?_
      refine zw_goto 38 dX10_flat_34 (by decide) ?_
      exact J _ (by simp only [if_pos h_6, if_neg h_18])
    · refine zw_iload 23 rfl dX10_flat_21 rfl ?_
      refine zw_iconst 24 rfl dX10_flat_23 ?_
      refine zw_sipush 27 rfl dX10_flat_24 rfl ?_
      refine zw_cSi3 30 rfl dX10_flat_27 kX10_flat_101 (Nat.le_of_ble_eq_true rfl) (c_within (by omega) (by omega) (by omega)) ?_
      refine zw_if_neB 37 33 rfl dX10_flat_30 (by decide) (fun h_30 => ?_) (fun h_30 => ?_)
      · refine zw_iconst 38 rfl dX10_flat_37 ?_
        exact J _ (by simp only [if_pos h_6, if_pos h_18, if_pos h_30])
      · refine zw_iconst 34 rfl dX10_flat_33 ?_
        refine zw_goto 38 dX10_flat_34 (by decide) ?_
        exact J _ (by simp only [if_pos h_6, if_pos h_18, if_neg h_30])
  · refine zw_iconst 10 rfl dX10_flat_9 ?_
    refine zw_goto 38 dX10_flat_10 (by decide) ?_
    exact J _ (by simp only [if_neg h_6])
def aRest (s r n : Int) : Nat → Int → zPc → Int
  | 0, _, _ => -2
  | m + 1, k, p => if aOth (aSmo p p s r n) p = 0 then k else aRest s r n m (k + 1) (aSmo p p s r n)
theorem xScr.bec4 {B a : Nat} {σ : zSt} : xScr B σ (zbec σ (B + 4) (B + 4 + 1) a (a + 1)) := ⟨fun k hk => by rw [zbec_o _ (by omega) (by omega)], fun b b1 b2 b3 => by rw [zbec_o _ (by omega) (by omega)]⟩
def sp_rests (A : zA) (of s r n : Int) : Int × zA := aAns (if aTold A of then if (1 ≤ s ∧ s ≤ 8) ∧ 8 ≤ r ∧ r ≤ 128 then if 0 ≤ n ∧ n ≤ 3 then 0 else 2 else 2 else 1) (-1) A (aRest s r n 20 0 (A.1 of.toNat), A)
theorem X_rests {G : zG} {B : Nat} {σ τ : zSt} {A : zA} {of s r n : Int} (h : zxR B σ τ A) (hof : -2147483648 ≤ of ∧ of ≤ 2147483647) (hs : -2147483648 ≤ s ∧ s ≤ 2147483647) (hr : -2147483648 ≤ r ∧ r ≤ 2147483647) (hn : -2147483648 ≤ n ∧ n ≤ 2147483647) : zC G M_X10_rests [.ref B, vi of, vi s, vi r, vi n] (zxS B, σ, τ) (xQ B (sp_rests A of s r n)) := by
  refine zC_of 1 rfl (Nat.le_of_ble_eq_true rfl) ?_
  have hah : zPic (zxS B) (B + 4) (B + 4 + 1) := zx_pic 4 rfl rfl rfl
  have loop : aTold A of → (1 ≤ s ∧ s ≤ 8) ∧ 8 ≤ r ∧ r ≤ 128 → (0 ≤ n ∧ n ≤ 3) → ∀ (m k : Nat) (p : zPc) (σs τs : zSt), m + k = 20 → 0 < p.1 → aRest s r n m k p = aRest s r n 20 0 (A.1 of.toNat) → xrPic σs (B + 4) p → xScr B σ σs → σs B 17 = 0 → τs (B + 56) = τ (B + 56) → zW G M_X10_rests (xQ B (sp_rests A of s r n)) 58 [some (.ref B), some (vi of), some (vi s), some (vi r), some (vi n), some (vi k)] [] (zxS B, σs, τs) := by
    intro hc1 hc2 hc3 m
    induction m with
    | zero =>
      intro k p σs τs hk h0 he hp hs h17 ht
      refine zw_iload 60 rfl dX10_rests_58 rfl ?_
      refine zw_bipush 62 rfl dX10_rests_60 rfl ?_
      refine zw_icmp_ge 115 65 rfl dX10_rests_62 (by decide) (by omega) (by omega) (fun h_62 => ?_) (fun h_62 => ?_)
      · refine zw_bipush 117 rfl dX10_rests_115 rfl ?_
        exact zw_iret (st := []) dX10_rests_117 rfl (xRead h (by simp only [if_pos hc1, if_pos hc2, if_pos hc3]) hs ht h17 he rfl)
      · omega
    | succ m ih =>
      intro k p σs τs hk h0 he hp hs h17 ht
      have her := aOth_r (p := aSmo p p s r n) (q := p) (hp.wh h0).2
      rw [aRest] at he
      refine zw_iload 60 rfl dX10_rests_58 rfl ?_
      refine zw_bipush 62 rfl dX10_rests_60 rfl ?_
      refine zw_icmp_ge 115 65 rfl dX10_rests_62 (by decide) (by omega) (by omega) (fun h_62 => ?_) (fun h_62 => ?_)
      · omega
      · refine zw_aload_n 66 rfl dX10_rests_65 rfl ?_
        refine zw_aload_n 67 rfl dX10_rests_66 rfl ?_
        refine zw_getr 70 rfl dX10_rests_67 fl_X10_20 (by first | assumption | exact zx_o0 | exact zx_o _ _ _ rfl) (by first | assumption | exact zx_f0 _ _ rfl | exact zx_f _ _ _ rfl) ?_
        refine zw_aload_n 71 rfl dX10_rests_70 rfl ?_
        refine zw_getr 74 rfl dX10_rests_71 fl_X10_20 (by first | assumption | exact zx_o0 | exact zx_o _ _ _ rfl) (by first | assumption | exact zx_f0 _ _ rfl | exact zx_f _ _ _ rfl) ?_
        refine zw_iload_n 75 rfl dX10_rests_74 rfl ?_
        refine zw_iload_n 76 rfl dX10_rests_75 rfl ?_
        refine zw_iload 78 rfl dX10_rests_76 rfl ?_
        refine zw_cVr5 81 rfl dX10_rests_78 kX10_rests_296 (Nat.le_of_ble_eq_true rfl) (by first | assumption | exact zx_o0 | exact zx_o _ _ _ rfl) (c_smoothToWork hah hah hp hp h0 rfl rfl (by omega) (by omega) hc2.1 hc2.2 hc3) ?_
        rintro _ _ ⟨rfl, σ2, τ2, rfl, f1, f2, f3⟩
        have hs2 : xScr B σ σ2 := hs.tr (xSmo f1)
        have h17' : σ2 B 17 = 0 := by rw [f1 B (by omega) (by omega)]; exact h17
        have ht2 : τ2 (B + 56) = τ (B + 56) := by rw [f2 _ (by omega)]; exact ht
        have hp2 : xrPic σ2 (B + 4) p := hp.c (f1 _ (by omega) (by omega)) (f1 _ (by omega) (by omega))
        refine zw_aload_n 82 rfl dX10_rests_81 rfl ?_
        refine zw_getr 85 rfl dX10_rests_82 fl_X10_16 (by first | assumption | exact zx_o0 | exact zx_o _ _ _ rfl) (by first | assumption | exact zx_f0 _ _ rfl | exact zx_f _ _ _ rfl) ?_
        refine zw_aload_n 86 rfl dX10_rests_85 rfl ?_
        refine zw_getr 89 rfl dX10_rests_86 fl_X10_20 (by first | assumption | exact zx_o0 | exact zx_o _ _ _ rfl) (by first | assumption | exact zx_f0 _ _ rfl | exact zx_f _ _ _ rfl) ?_
        refine zw_cSi2 92 rfl dX10_rests_89 kX10_rests_316 (Nat.le_of_ble_eq_true rfl) (c_othersP zx_work hah f3 hp2 h0 rfl rfl) ?_
        refine zw_if_ne 98 95 rfl dX10_rests_92 (by decide) (by omega) (fun h_92 => ?_) (fun h_92 => ?_)
        · refine zw_aload_n 99 rfl dX10_rests_98 rfl ?_
          refine zw_getr 102 rfl dX10_rests_99 fl_X10_20 (by first | assumption | exact zx_o0 | exact zx_o _ _ _ rfl) (by first | assumption | exact zx_f0 _ _ rfl | exact zx_f _ _ _ rfl) ?_
          refine zw_aload_n 103 rfl dX10_rests_102 rfl ?_
          refine zw_getr 106 rfl dX10_rests_103 fl_X10_16 (by first | assumption | exact zx_o0 | exact zx_o _ _ _ rfl) (by first | assumption | exact zx_f0 _ _ rfl | exact zx_f _ _ _ rfl) ?_
          refine zw_cVv1 109 rfl dX10_rests_106 kX10_rests_137 (Nat.le_of_ble_eq_true rfl) (by first | assumption | exact zx_o0 | exact zx_o _ _ _ rfl) (c_become hah zx_work (by omega) (by omega)) ?_
          refine zw_iinc 112 rfl dX10_rests_109 (Nat.le_of_ble_eq_true rfl) rfl rfl ?_
          refine zw_goto 58 dX10_rests_112 (by decide) ?_
          rw [if_neg h_92] at he
          exact ih (k + 1) (aSmo p p s r n) _ _ (by omega) h0 he f3.bec (hs2.tr xScr.bec4) (by rw [zbec_o _ (by omega) (by omega)]; exact h17') ht2
        · refine zw_iload 97 rfl dX10_rests_95 rfl ?_
          exact zw_iret (st := []) dX10_rests_97 rfl (xRead h (by simp only [if_pos hc1, if_pos hc2, if_pos hc3]) hs2 ht2 h17' (by rw [← he, if_pos h_92]) rfl)
  have J : ∀ v : Int, v = (if aTold A of then if (1 ≤ s ∧ s ≤ 8) ∧ 8 ≤ r ∧ r ≤ 128 then if 0 ≤ n ∧ n ≤ 3 then 0 else 2 else 2 else 1) → zW G M_X10_rests (xQ B (sp_rests A of s r n)) 34 [some (.ref B), some (vi of), some (vi s), some (vi r), some (vi n), none] [vi v, .ref B] (zxS B, σ, τ) := by
    intro v hv

    refine zw_cVi1 37 rfl dX10_rests_34 kX10_rests_105 (Nat.le_of_ble_eq_true rfl) (by first | assumption | exact zx_o0 | exact zx_o _ _ _ rfl) (c_refused (by rw [hv]; (repeat' split) <;> omega)) ?_
    refine zw_if_eqB 42 40 rfl dX10_rests_37 (by decide) (fun h_37 => ?_) (fun h_37 => ?_)
    · have hc1 : aTold A of := Decidable.byContradiction fun q => by rw [if_neg q] at hv; (try split at hv) <;> omega
      rw [if_pos hc1] at hv
      have hc2 : (1 ≤ s ∧ s ≤ 8) ∧ 8 ≤ r ∧ r ≤ 128 := Decidable.byContradiction fun q => by rw [if_neg q] at hv; (try split at hv) <;> omega
      rw [if_pos hc2] at hv
      have hc3 : 0 ≤ n ∧ n ≤ 3 := Decidable.byContradiction fun q => by rw [if_neg q] at hv; (try split at hv) <;> omega
      rw [if_pos hc3] at hv
      subst hv
      have hP1 := (xScr.z (v := 0)).P h.p of.toNat (by omega)
      have hq1 := (zx_p6 (B := B) (i := of.toNat) (by omega))
      refine zw_aload_n 43 rfl dX10_rests_42 rfl ?_
      refine zw_getr 46 rfl dX10_rests_43 fl_X10_20 (by first | assumption | exact zx_o0 | exact zx_o _ _ _ rfl) (by first | assumption | exact zx_f0 _ _ rfl | exact zx_f _ _ _ rfl) ?_
      refine zw_aload_n 47 rfl dX10_rests_46 rfl ?_
      refine zw_getr 50 rfl dX10_rests_47 fl_X10_11 (by first | assumption | exact zx_o0 | exact zx_o _ _ _ rfl) (by first | assumption | exact zx_f0 _ _ rfl | exact zx_f _ _ _ rfl) ?_
      refine zw_iload_n 51 rfl dX10_rests_50 rfl ?_
      refine zw_aald 52 rfl dX10_rests_51 (by first | assumption | exact zx_o0 | exact zx_o _ _ _ rfl) (by omega) (by omega) (by first | assumption | exact zx_p6r (by omega)) ?_
      refine zw_cVv1 55 rfl dX10_rests_52 kX10_rests_137 (Nat.le_of_ble_eq_true rfl) (by first | assumption | exact zx_o0 | exact zx_o _ _ _ rfl) (c_become hah hq1 (by simp only [zpa]; omega) (by simp only [zpa]; omega)) ?_
      refine zw_iconst 56 rfl dX10_rests_55 ?_
      refine zw_istore 58 rfl dX10_rests_56 (Nat.le_of_ble_eq_true rfl) rfl ?_
      exact loop hc1 hc2 hc3 20 0 _ _ _ rfl hc1.2 rfl hP1.bec (xScr.z.tr xScr.bec4) (by rw [zbec_o _ (by omega) (by omega)]; exact zu_eq _ _ _ _) rfl
    · refine zw_iconst 41 rfl dX10_rests_40 ?_
      subst hv
      exact zw_iret (st := []) dX10_rests_41 rfl (xRef h h_37 (by (repeat' split) <;> omega))
  refine zw_aload_n 1 rfl dX10_rests_0 rfl ?_
  refine zw_aload_n 2 rfl dX10_rests_1 rfl ?_
  refine zw_iload_n 3 rfl dX10_rests_2 rfl ?_
  refine zw_cVi1 6 rfl dX10_rests_3 kX10_rests_145 (Nat.le_of_ble_eq_true rfl) (by first | assumption | exact zx_o0 | exact zx_o _ _ _ rfl) (c_told h.p hof) ?_
  refine zw_if_neB 13 9 rfl dX10_rests_6 (by decide) (fun h_6 => ?_) (fun h_6 => ?_)
  · refine zw_iload_n 14 rfl dX10_rests_13 rfl ?_
    refine zw_iload_n 15 rfl dX10_rests_14 rfl ?_
    refine zw_cSi2 18 rfl dX10_rests_15 kX10_rests_227 (Nat.le_of_ble_eq_true rfl) (c_isGridSize hs hr) ?_
    refine zw_if_eqB 29 21 rfl dX10_rests_18 (by decide) (fun h_18 => ?_) (fun h_18 => ?_)
    · refine zw_iconst 30 rfl dX10_rests_29 ?_
      refine zw_goto 34 dX10_rests_30 (by decide) ?_
      exact J _ (by simp only [if_pos h_6, if_neg h_18])
    · refine zw_iload 23 rfl dX10_rests_21 rfl ?_
      refine zw_cSi1 26 rfl dX10_rests_23 kX10_rests_293 (Nat.le_of_ble_eq_true rfl) (c_isBlurs hn) ?_
      refine zw_if_neB 33 29 rfl dX10_rests_26 (by decide) (fun h_26 => ?_) (fun h_26 => ?_)
      · refine zw_iconst 34 rfl dX10_rests_33 ?_
        exact J _ (by simp only [if_pos h_6, if_pos h_18, if_pos h_26])
      · refine zw_iconst 30 rfl dX10_rests_29 ?_
        refine zw_goto 34 dX10_rests_30 (by decide) ?_
        exact J _ (by simp only [if_pos h_6, if_pos h_18, if_neg h_26])
  · refine zw_iconst 10 rfl dX10_rests_9 ?_
    refine zw_goto 34 dX10_rests_10 (by decide) ?_
    exact J _ (by simp only [if_neg h_6])
