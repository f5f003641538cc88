/-! ===== steps ===== -/
def zStR (p : zPc) (x y : Int) : Int := if (0 ≤ x ∧ x + 1 < p.1) ∧ 0 ≤ y ∧ y < p.2.1 then zab (p.2.2 x y - p.2.2 (x + 1) y) else -1
def zStD (p : zPc) (x y : Int) : Int := if (0 ≤ x ∧ x < p.1) ∧ 0 ≤ y ∧ y + 1 < p.2.1 then zab (p.2.2 x y - p.2.2 x (y + 1)) else -1
theorem zStR_r {p : zPc} {x y : Int} (hd : aDots p) : -1 ≤ zStR p x y ∧ zStR p x y ≤ 255 := by
  unfold zStR
  split
  · rename_i h
    have h1 := hd x y (by omega) (by omega)
    have h2 := hd (x + 1) y (by omega) (by omega)
    unfold zab; split <;> omega
  · omega
theorem zStD_r {p : zPc} {x y : Int} (hd : aDots p) : -1 ≤ zStD p x y ∧ zStD p x y ≤ 255 := by
  unfold zStD
  split
  · rename_i h
    have h1 := hd x y (by omega) (by omega)
    have h2 := hd x (y + 1) (by omega) (by omega)
    unfold zab; split <;> omega
  · omega
theorem c_stR {G : zG} {S : zSh} {σ τ : zSt} {a : Nat} {p : zPc} {x y : Int} (hp : zPic S a (a + 1)) (h : xrPic σ a p) (h0 : 0 < p.1) (hx : -2147483648 ≤ x ∧ x ≤ 2147483646) (hy : -2147483648 ≤ y ∧ y ≤ 2147483646) : zC G M_X5_stepRight [.ref a, vi x, vi y] (S, σ, τ) (zR (some (vi (zStR p x y))) (S, σ, τ)) := by
  have hwh := h.wh h0
  have e : (if zHas σ a x y ∧ zHas σ a (x + 1) y then zab (zDot σ a (a + 1) x y - zDot σ a (a + 1) (x + 1) y) else -1) = zStR p x y := by
    unfold zStR
    by_cases q : (0 ≤ x ∧ x + 1 < p.1) ∧ 0 ≤ y ∧ y < p.2.1
    · rw [if_pos q, if_pos (by simp only [zHas, hwh.1.1, hwh.1.2]; omega), h.dot h0 (by omega) (by omega), h.dot h0 (by omega) (by omega)]
    · rw [if_neg q, if_neg (by simp only [zHas, hwh.1.1, hwh.1.2]; omega)]
  rw [← e]
  exact c_stepRight hp h.1 (h.sd h0) hx hy
theorem c_stD {G : zG} {S : zSh} {σ τ : zSt} {a : Nat} {p : zPc} {x y : Int} (hp : zPic S a (a + 1)) (h : xrPic σ a p) (h0 : 0 < p.1) (hx : -2147483648 ≤ x ∧ x ≤ 2147483646) (hy : -2147483648 ≤ y ∧ y ≤ 2147483646) : zC G M_X5_stepDown [.ref a, vi x, vi y] (S, σ, τ) (zR (some (vi (zStD p x y))) (S, σ, τ)) := by
  have hwh := h.wh h0
  have e : (if zHas σ a x y ∧ zHas σ a x (y + 1) then zab (zDot σ a (a + 1) x y - zDot σ a (a + 1) x (y + 1)) else -1) = zStD p x y := by
    unfold zStD
    by_cases q : (0 ≤ x ∧ x < p.1) ∧ 0 ≤ y ∧ y + 1 < p.2.1
    · rw [if_pos q, if_pos (by simp only [zHas, hwh.1.1, hwh.1.2]; omega), h.dot h0 (by omega) (by omega), h.dot h0 (by omega) (by omega)]
    · rw [if_neg q, if_neg (by simp only [zHas, hwh.1.1, hwh.1.2]; omega)]
  rw [← e]
  exact c_stepDown hp h.1 (h.sd h0) hx hy
/-! ===== edges of one picture, and of another one too ===== -/
def aEdge (p q : zPc) (t : Int) : Int := zwin 0 p.1 0 p.2.1 (fun x y n => n + (if t ≤ zStR p x y ∧ t ≤ zStR q x y then 1 else 0) + (if t ≤ zStD p x y ∧ t ≤ zStD q x y then 1 else 0)) 0
theorem c_edgesOfBoth {G : zG} {S : zSh} {σ τ : zSt} {a b : Nat} {p q : zPc} {t : Int} (hp : zPic S a (a + 1)) (h : xrPic σ a p) (h0 : 0 < p.1) (hq : zPic S b (b + 1)) (g : xrPic σ b q) (g0 : 0 < q.1) (ht : -2147483648 ≤ t ∧ t ≤ 2147483647) : zC G M_X10_edgesOfBoth [.ref a, .ref b, vi t] (S, σ, τ) (zR (some (vi (aEdge p q t))) (S, σ, τ)) := by
  have hwh := h.wh h0
  have hd1 : aDots p := fun x y hx hy => ((h.2.2 h0).2.2 x y hx hy).2
  have hd2 : aDots q := fun x y hx hy => ((g.2.2 g0).2.2 x y hx hy).2
  have ha := hp.1
  refine zC_of 3 rfl (Nat.le_of_ble_eq_true rfl) ?_
  generalize hF : (fun (x y n : Int) => n + (if t ≤ zStR p x y ∧ t ≤ zStR q x y then (1 : Int) else 0) + (if t ≤ zStD p x y ∧ t ≤ zStD q x y then 1 else 0)) = F
  have hF' : ∀ x y n, F x y n = n + (if t ≤ zStR p x y ∧ t ≤ zStR q x y then 1 else 0) + (if t ≤ zStD p x y ∧ t ≤ zStD q x y then 1 else 0) := fun x y n => by rw [← hF]
  have hE : aEdge p q t = zfold (fun j => zfold (fun i => F (0 + i) (0 + j)) (p.1 - 0).toNat) (p.2.1 - 0).toNat 0 := by subst hF; rfl
  rw [hE]
  rw [show (p.1 - 0).toNat = p.1.toNat by omega, show (p.2.1 - 0).toNat = p.2.1.toNat by omega]
  generalize hO : (fun (j : Nat) => zfold (fun (i : Nat) => F (0 + i) (0 + j)) p.1.toNat) = O
  have hO' : ∀ j c, O j c = zfold (fun (i : Nat) => F (0 + i) (0 + j)) p.1.toNat c := fun j c => by rw [← hO]
  have outer : ∀ (fu j : Nat), (j : Int) ≤ p.2.1 → p.2.1 - j < fu → zW G M_X10_edgesOfBoth (zR (some (vi (zfold O p.2.1.toNat 0))) (S, σ, τ)) 5 [some (.ref a), some (.ref b), some (vi t), some (vi (zfold O j 0)), some (vi j), none] [] (S, σ, τ) := by
    intro fu
    induction fu with
    | zero => intro j h1 h2; omega
    | succ fu ih =>
      intro j h1 h2
      generalize hI : (fun (i : Nat) => F (0 + i) (0 + j)) = I
      have hI' : ∀ i c, I i c = F i j c := fun i c => by rw [← hI]; show F (0 + (i : Int)) (0 + (j : Int)) c = F i j c; rw [Int.zero_add, Int.zero_add]
      have inner : ∀ (fm i : Nat), (j : Int) < p.2.1 → (i : Int) ≤ p.1 → p.1 - i < fm → zW G M_X10_edgesOfBoth (zR (some (vi (zfold O p.2.1.toNat 0))) (S, σ, τ)) 17 [some (.ref a), some (.ref b), some (vi t), some (vi (zfold I i (zfold O j 0))), some (vi j), some (vi i)] [] (S, σ, τ) := by
        intro fm
        induction fm with
        | zero => intro i h3 h4 h5; omega
        | succ fm ihm =>
          intro i h3 h4 h5
          have r1 := zStR_r (x := i) (y := j) hd1
          have r2 := zStR_r (x := i) (y := j) hd2
          have r3 := zStD_r (x := i) (y := j) hd1
          have r4 := zStD_r (x := i) (y := j) hd2
          have K58 : (i : Int) < p.1 → ∀ c, c = zfold I i (zfold O j 0) + (if t ≤ zStR p i j ∧ t ≤ zStR q i j then 1 else 0) → zW G M_X10_edgesOfBoth (zR (some (vi (zfold O p.2.1.toNat 0))) (S, σ, τ)) 58 [some (.ref a), some (.ref b), some (vi t), some (vi c), some (vi j), some (vi i)] [] (S, σ, τ) := by
            intro hi c hc
            refine zw_iload_n 59 rfl dX10_edgesOfBoth_58 rfl ?_
            refine zw_aload_n 60 rfl dX10_edgesOfBoth_59 rfl ?_
            refine zw_iload 62 rfl dX10_edgesOfBoth_60 rfl ?_
            refine zw_iload 64 rfl dX10_edgesOfBoth_62 rfl ?_
            refine zw_cVi2 67 rfl dX10_edgesOfBoth_64 kX10_edgesOfBoth_334 (Nat.le_of_ble_eq_true rfl) ha (c_stD hp h h0 (by omega) (by omega)) ?_
            refine zw_iload_n 68 rfl dX10_edgesOfBoth_67 rfl ?_
            refine zw_icmp_lt 87 71 rfl dX10_edgesOfBoth_68 (by decide) (by omega) (by omega) (fun h_68 => ?_) (fun h_68 => ?_)
            · refine zw_iconst 88 rfl dX10_edgesOfBoth_87 ?_
              refine zw_iadd 89 rfl dX10_edgesOfBoth_88 ?_
              refine zw_istore_n 90 rfl dX10_edgesOfBoth_89 (Nat.le_of_ble_eq_true rfl) rfl ?_
              refine zw_iinc 93 rfl dX10_edgesOfBoth_90 (Nat.le_of_ble_eq_true rfl) rfl rfl ?_
              refine zw_goto 17 dX10_edgesOfBoth_93 (by decide) ?_
              have ihm := ihm (i + 1) h3 (by omega) (by omega)
              simp only [zfold] at ihm
              rw [hI', hF', ← hc] at ihm
              first | (rw [if_pos (show t ≤ zStD p i j ∧ t ≤ zStD q i j by omega)] at ihm) | (rw [if_neg (show ¬ (t ≤ zStD p i j ∧ t ≤ zStD q i j) by omega)] at ihm)
              exact ihm
            · refine zw_aload_n 72 rfl dX10_edgesOfBoth_71 rfl ?_
              refine zw_iload 74 rfl dX10_edgesOfBoth_72 rfl ?_
              refine zw_iload 76 rfl dX10_edgesOfBoth_74 rfl ?_
              refine zw_cVi2 79 rfl dX10_edgesOfBoth_76 kX10_edgesOfBoth_334 (Nat.le_of_ble_eq_true rfl) hq.1 (c_stD hq g g0 (by omega) (by omega)) ?_
              refine zw_iload_n 80 rfl dX10_edgesOfBoth_79 rfl ?_
              refine zw_icmp_lt 87 83 rfl dX10_edgesOfBoth_80 (by decide) (by omega) (by omega) (fun h_80 => ?_) (fun h_80 => ?_)
              · refine zw_iconst 88 rfl dX10_edgesOfBoth_87 ?_
                refine zw_iadd 89 rfl dX10_edgesOfBoth_88 ?_
                refine zw_istore_n 90 rfl dX10_edgesOfBoth_89 (Nat.le_of_ble_eq_true rfl) rfl ?_
                refine zw_iinc 93 rfl dX10_edgesOfBoth_90 (Nat.le_of_ble_eq_true rfl) rfl rfl ?_
                refine zw_goto 17 dX10_edgesOfBoth_93 (by decide) ?_
                have ihm := ihm (i + 1) h3 (by omega) (by omega)
                simp only [zfold] at ihm
                rw [hI', hF', ← hc] at ihm
                first | (rw [if_pos (show t ≤ zStD p i j ∧ t ≤ zStD q i j by omega)] at ihm) | (rw [if_neg (show ¬ (t ≤ zStD p i j ∧ t ≤ zStD q i j) by omega)] at ihm)
                exact ihm
              · refine zw_iconst 84 rfl dX10_edgesOfBoth_83 ?_
                refine zw_goto 88 dX10_edgesOfBoth_84 (by decide) ?_
                refine zw_iadd 89 rfl dX10_edgesOfBoth_88 ?_
                refine zw_istore_n 90 rfl dX10_edgesOfBoth_89 (Nat.le_of_ble_eq_true rfl) rfl ?_
                refine zw_iinc 93 rfl dX10_edgesOfBoth_90 (Nat.le_of_ble_eq_true rfl) rfl rfl ?_
                refine zw_goto 17 dX10_edgesOfBoth_93 (by decide) ?_
                have ihm := ihm (i + 1) h3 (by omega) (by omega)
                simp only [zfold] at ihm
                rw [hI', hF', ← hc] at ihm
                first | (rw [if_pos (show t ≤ zStD p i j ∧ t ≤ zStD q i j by omega)] at ihm) | (rw [if_neg (show ¬ (t ≤ zStD p i j ∧ t ≤ zStD q i j) by omega)] at ihm)
                exact ihm
          refine zw_iload 19 rfl dX10_edgesOfBoth_17 rfl ?_
          refine zw_aload_n 20 rfl dX10_edgesOfBoth_19 rfl ?_
          refine zw_geti 23 rfl dX10_edgesOfBoth_20 fl_X10_148 ha ?_
          rw [hwh.1.1]
          refine zw_icmp_ge 96 26 rfl dX10_edgesOfBoth_23 (by decide) (by omega) (by omega) (fun h_23 => ?_) (fun h_23 => ?_)
          · refine zw_iinc 99 rfl dX10_edgesOfBoth_96 (Nat.le_of_ble_eq_true rfl) rfl rfl ?_
            refine zw_goto 5 dX10_edgesOfBoth_99 (by decide) ?_
            refine zw_drop 5 ?_
            have ih := ih (j + 1) (by omega) (by omega)
            simp only [zfold] at ih
            rw [hO', hI] at ih
            rw [show p.1.toNat = i by omega] at ih
            exact ih
          · refine zw_iload_n 27 rfl dX10_edgesOfBoth_26 rfl ?_
            refine zw_aload_n 28 rfl dX10_edgesOfBoth_27 rfl ?_
            refine zw_iload 30 rfl dX10_edgesOfBoth_28 rfl ?_
            refine zw_iload 32 rfl dX10_edgesOfBoth_30 rfl ?_
            refine zw_cVi2 35 rfl dX10_edgesOfBoth_32 kX10_edgesOfBoth_331 (Nat.le_of_ble_eq_true rfl) ha (c_stR hp h h0 (by omega) (by omega)) ?_
            refine zw_iload_n 36 rfl dX10_edgesOfBoth_35 rfl ?_
            refine zw_icmp_lt 55 39 rfl dX10_edgesOfBoth_36 (by decide) (by omega) (by omega) (fun h_36 => ?_) (fun h_36 => ?_)
            · refine zw_iconst 56 rfl dX10_edgesOfBoth_55 ?_
              refine zw_iadd 57 rfl dX10_edgesOfBoth_56 ?_
              refine zw_istore_n 58 rfl dX10_edgesOfBoth_57 (Nat.le_of_ble_eq_true rfl) rfl ?_
              exact K58 (by omega) _ (by first | (rw [if_pos (show t ≤ zStR p i j ∧ t ≤ zStR q i j by omega)]) | (rw [if_neg (show ¬ (t ≤ zStR p i j ∧ t ≤ zStR q i j) by omega)]))
            · refine zw_aload_n 40 rfl dX10_edgesOfBoth_39 rfl ?_
              refine zw_iload 42 rfl dX10_edgesOfBoth_40 rfl ?_
              refine zw_iload 44 rfl dX10_edgesOfBoth_42 rfl ?_
              refine zw_cVi2 47 rfl dX10_edgesOfBoth_44 kX10_edgesOfBoth_331 (Nat.le_of_ble_eq_true rfl) hq.1 (c_stR hq g g0 (by omega) (by omega)) ?_
              refine zw_iload_n 48 rfl dX10_edgesOfBoth_47 rfl ?_
              refine zw_icmp_lt 55 51 rfl dX10_edgesOfBoth_48 (by decide) (by omega) (by omega) (fun h_48 => ?_) (fun h_48 => ?_)
              · refine zw_iconst 56 rfl dX10_edgesOfBoth_55 ?_
                refine zw_iadd 57 rfl dX10_edgesOfBoth_56 ?_
                refine zw_istore_n 58 rfl dX10_edgesOfBoth_57 (Nat.le_of_ble_eq_true rfl) rfl ?_
                exact K58 (by omega) _ (by first | (rw [if_pos (show t ≤ zStR p i j ∧ t ≤ zStR q i j by omega)]) | (rw [if_neg (show ¬ (t ≤ zStR p i j ∧ t ≤ zStR q i j) by omega)]))
              · refine zw_iconst 52 rfl dX10_edgesOfBoth_51 ?_
                refine zw_goto 56 dX10_edgesOfBoth_52 (by decide) ?_
                refine zw_iadd 57 rfl dX10_edgesOfBoth_56 ?_
                refine zw_istore_n 58 rfl dX10_edgesOfBoth_57 (Nat.le_of_ble_eq_true rfl) rfl ?_
                exact K58 (by omega) _ (by first | (rw [if_pos (show t ≤ zStR p i j ∧ t ≤ zStR q i j by omega)]) | (rw [if_neg (show ¬ (t ≤ zStR p i j ∧ t ≤ zStR q i j) by omega)]))
      refine zw_iload 7 rfl dX10_edgesOfBoth_5 rfl ?_
      refine zw_aload_n 8 rfl dX10_edgesOfBoth_7 rfl ?_
      refine zw_geti 11 rfl dX10_edgesOfBoth_8 fl_X10_151 ha ?_
      rw [hwh.1.2]
      refine zw_icmp_ge 102 14 rfl dX10_edgesOfBoth_11 (by decide) (by omega) (by omega) (fun h_11 => ?_) (fun h_11 => ?_)
      · refine zw_iload_n 103 rfl dX10_edgesOfBoth_102 rfl ?_
        exact zw_iretR dX10_edgesOfBoth_103 rfl (by rw [show j = p.2.1.toNat by omega]) rfl
      · refine zw_iconst 15 rfl dX10_edgesOfBoth_14 ?_
        refine zw_istore 17 rfl dX10_edgesOfBoth_15 (Nat.le_of_ble_eq_true rfl) rfl ?_
        exact inner (p.1.toNat + 1) 0 (by omega) (by omega) (by omega)
  refine zw_iconst 1 rfl dX10_edgesOfBoth_0 ?_
  refine zw_istore_n 2 rfl dX10_edgesOfBoth_1 (Nat.le_of_ble_eq_true rfl) rfl ?_
  refine zw_iconst 3 rfl dX10_edgesOfBoth_2 ?_
  refine zw_istore 5 rfl dX10_edgesOfBoth_3 (Nat.le_of_ble_eq_true rfl) rfl ?_
  exact outer (p.2.1.toNat + 1) 0 (by omega) (by omega)
def sp_edges (A : zA) (of t : Int) : Int × zA := aAns (if aTold A of then if 0 ≤ t ∧ t ≤ 255 then 0 else 2 else 1) (-1) A (aEdge (A.1 of.toNat) (A.1 of.toNat) t, A)
theorem X_edges {G : zG} {B : Nat} {σ τ : zSt} {A : zA} {of t : Int} (h : zxR B σ τ A) (hof : -2147483648 ≤ of ∧ of ≤ 2147483647) (ht : -2147483648 ≤ t ∧ t ≤ 2147483647) : zC G M_X10_edges [.ref B, vi of, vi t] (zxS B, σ, τ) (xQ B (sp_edges A of t)) := by
  refine zC_of 0 rfl (Nat.le_of_ble_eq_true rfl) ?_
  have J : ∀ v : Int, v = (if aTold A of then if 0 ≤ t ∧ t ≤ 255 then 0 else 2 else 1) → zW G M_X10_edges (xQ B (sp_edges A of t)) 25 [some (.ref B), some (vi of), some (vi t)] [vi v, .ref B] (zxS B, σ, τ) := by
    intro v hv

    refine zw_cVi1 28 rfl dX10_edges_25 kX10_edges_105 (Nat.le_of_ble_eq_true rfl) (by first | assumption | exact zx_o0 | exact zx_o _ _ _ rfl) (c_refused (by rw [hv]; (repeat' split) <;> omega)) ?_
    refine zw_if_eqB 33 31 rfl dX10_edges_28 (by decide) (fun h_28 => ?_) (fun h_28 => ?_)
    · have hc1 : aTold A of := Decidable.byContradiction fun q => by rw [if_neg q] at hv; (try split at hv) <;> omega
      rw [if_pos hc1] at hv
      have hc2 : 0 ≤ t ∧ t ≤ 255 := Decidable.byContradiction fun q => by rw [if_neg q] at hv; (try split at hv) <;> omega
      rw [if_pos hc2] at hv
      subst hv
      have hP1 := (xScr.z (v := 0)).P h.p of.toNat (by omega)
      refine zw_aload_n 34 rfl dX10_edges_33 rfl ?_
      refine zw_getr 37 rfl dX10_edges_34 fl_X10_11 (by first | assumption | exact zx_o0 | exact zx_o _ _ _ rfl) (by first | assumption | exact zx_f0 _ _ rfl | exact zx_f _ _ _ rfl) ?_
      refine zw_iload_n 38 rfl dX10_edges_37 rfl ?_
      refine zw_aald 39 rfl dX10_edges_38 (by first | assumption | exact zx_o0 | exact zx_o _ _ _ rfl) (by omega) (by omega) (by first | assumption | exact zx_p6r (by omega)) ?_
      refine zw_aload_n 40 rfl dX10_edges_39 rfl ?_
      refine zw_getr 43 rfl dX10_edges_40 fl_X10_11 (by first | assumption | exact zx_o0 | exact zx_o _ _ _ rfl) (by first | assumption | exact zx_f0 _ _ rfl | exact zx_f _ _ _ rfl) ?_
      refine zw_iload_n 44 rfl dX10_edges_43 rfl ?_
      refine zw_aald 45 rfl dX10_edges_44 (by first | assumption | exact zx_o0 | exact zx_o _ _ _ rfl) (by omega) (by omega) (by first | assumption | exact zx_p6r (by omega)) ?_
      refine zw_iload_n 46 rfl dX10_edges_45 rfl ?_
      refine zw_cSi3 49 rfl dX10_edges_46 kX10_edges_320 (Nat.le_of_ble_eq_true rfl) (c_edgesOfBoth (zx_p6 (by omega)) hP1 hc1.2 (zx_p6 (by omega)) hP1 hc1.2 (by omega)) ?_
      exact zw_iret (st := []) dX10_edges_49 rfl (xRead h (by simp only [if_pos hc1, if_pos hc2]) xScr.z rfl (zu_eq _ _ _ _) rfl rfl)
    · refine zw_iconst 32 rfl dX10_edges_31 ?_
      subst hv
      exact zw_iret (st := []) dX10_edges_32 rfl (xRef h h_28 (by (repeat' split) <;> omega))
  refine zw_aload_n 1 rfl dX10_edges_0 rfl ?_
  refine zw_aload_n 2 rfl dX10_edges_1 rfl ?_
  refine zw_iload_n 3 rfl dX10_edges_2 rfl ?_
  refine zw_cVi1 6 rfl dX10_edges_3 kX10_edges_145 (Nat.le_of_ble_eq_true rfl) (by first | assumption | exact zx_o0 | exact zx_o _ _ _ rfl) (c_told h.p hof) ?_
  refine zw_if_neB 13 9 rfl dX10_edges_6 (by decide) (fun h_6 => ?_) (fun h_6 => ?_)
  · refine zw_iload_n 14 rfl dX10_edges_13 rfl ?_
    refine zw_cSi1 17 rfl dX10_edges_14 kX10_edges_178 (Nat.le_of_ble_eq_true rfl) (c_isShade ht) ?_
    refine zw_if_neB 24 20 rfl dX10_edges_17 (by decide) (fun h_17 => ?_) (fun h_17 => ?_)
    · refine zw_iconst 25 rfl dX10_edges_24 ?_
      exact J _ (by simp only [if_pos h_6, if_pos h_17])
    · refine zw_iconst 21 rfl dX10_edges_20 ?_
      refine zw_goto 25 dX10_edges_21 (by decide) ?_
      exact J _ (by simp only [if_pos h_6, if_neg h_17])
  · refine zw_iconst 10 rfl dX10_edges_9 ?_
    refine zw_goto 25 dX10_edges_10 (by decide) ?_
    exact J _ (by simp only [if_neg h_6])
