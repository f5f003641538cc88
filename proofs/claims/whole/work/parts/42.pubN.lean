/-! ===== steep ===== -/
def aSteep (p : zPc) (what : Int) : Int := zwin 0 p.1 0 p.2.1 (fun x y s => s + (if what = 2 then 0 else zmx 0 (zStR p x y)) + (if what = 1 then 0 else zmx 0 (zStD p x y))) 0
def sp_steep (A : zA) (of what : Int) : Int × zA := aAns (if aTold A of then if 0 ≤ what ∧ what ≤ 2 then 0 else 1 else 1) (-1) A (aSteep (A.1 of.toNat) what, A)
theorem X_steep {G : zG} {B : Nat} {σ τ : zSt} {A : zA} {of what : Int} (h : zxR B σ τ A) (hof : -2147483648 ≤ of ∧ of ≤ 2147483647) (hwhat : -2147483648 ≤ what ∧ what ≤ 2147483647) : zC G M_X10_steep [.ref B, vi of, vi what] (zxS B, σ, τ) (xQ B (sp_steep A of what)) := by
  refine zC_of 4 rfl (Nat.le_of_ble_eq_true rfl) ?_
  have body : aTold A of → (0 ≤ what ∧ what ≤ 2) → zW G M_X10_steep (xQ B (sp_steep A of what)) 31 [some (.ref B), some (vi of), some (vi what), none, none, none, none] [] (zxS B, zu σ B 17 0, τ) := by
    intro hc1 hc2
    have hP1 := (xScr.z (v := 0)).P h.p of.toNat (by omega)
    have hq6 := (zx_p6 (B := B) (i := of.toNat) (by omega))
    have hwh := hP1.wh hc1.2
    have hd : aDots (A.1 of.toNat) := fun x y hx hy => ((hP1.2.2 hc1.2).2.2 x y hx hy).2
    generalize hF : (fun (x y s : Int) => s + (if what = 2 then 0 else zmx 0 (zStR (A.1 of.toNat) x y)) + (if what = 1 then 0 else zmx 0 (zStD (A.1 of.toNat) x y))) = F
    have hF' : ∀ x y s, F x y s = s + (if what = 2 then 0 else zmx 0 (zStR (A.1 of.toNat) x y)) + (if what = 1 then 0 else zmx 0 (zStD (A.1 of.toNat) x y)) := fun x y s => by rw [← hF]
    have hE : aSteep (A.1 of.toNat) what = zfold (fun (j : Nat) => zfold (fun (i : Nat) => F (0 + i) (0 + j)) (A.1 of.toNat).1.toNat) (A.1 of.toNat).2.1.toNat 0 := by subst hF; unfold aSteep zwin; rw [Int.sub_zero, Int.sub_zero]
    generalize hO : (fun (j : Nat) => zfold (fun (i : Nat) => F (0 + i) (0 + j)) ((A.1 of.toNat).1).toNat) = O
    have hO' : ∀ j c, O j c = zfold (fun (i : Nat) => F (0 + i) (0 + j)) ((A.1 of.toNat).1).toNat c := fun j c => by rw [← hO]
    have outer : ∀ (fu j : Nat), (j : Int) ≤ (A.1 of.toNat).2.1 → (A.1 of.toNat).2.1 - j < fu → zW G M_X10_steep (xQ B (sp_steep A of what)) 44 [some (.ref B), some (vi of), some (vi what), some (.ref (zpa B of.toNat)), some (vi (zfold O j 0)), some (vi j), none] [] (zxS B, zu σ B 17 0, τ) := by
      intro fu
      induction fu with
      | zero => intro j h1 h2; omega
      | succ fu ih =>
        intro j h1 h2
        generalize hI : (fun (i : Nat) => F (0 + i) (0 + j)) = I
        have hI' : ∀ i c, I i c = F i j c := fun i c => by rw [← hI]; show F (0 + (i : Int)) (0 + (j : Int)) c = F i j c; rw [Int.zero_add, Int.zero_add]
        have inner : ∀ (fm i : Nat), (j : Int) < (A.1 of.toNat).2.1 → (i : Int) ≤ (A.1 of.toNat).1 → (A.1 of.toNat).1 - i < fm → zW G M_X10_steep (xQ B (sp_steep A of what)) 56 [some (.ref B), some (vi of), some (vi what), some (.ref (zpa B of.toNat)), some (vi (zfold I i (zfold O j 0))), some (vi j), some (vi i)] [] (zxS B, zu σ B 17 0, τ) := by
          intro fm
          induction fm with
          | zero => intro i h3 h4 h5; omega
          | succ fm ihm =>
            intro i h3 h4 h5
            have r1 := zStR_r (x := i) (y := j) hd
            have r2 := zStD_r (x := i) (y := j) hd
            have K91 : (i : Int) < (A.1 of.toNat).1 → ∀ c, c = zfold I i (zfold O j 0) + (if what = 2 then 0 else zmx 0 (zStR (A.1 of.toNat) i j)) → zW G M_X10_steep (xQ B (sp_steep A of what)) 91 [some (.ref B), some (vi of), some (vi what), some (.ref (zpa B of.toNat)), some (vi c), some (vi j), some (vi i)] [] (zxS B, zu σ B 17 0, τ) := by
              intro hi c hc
              refine zw_iload 93 rfl dX10_steep_91 rfl ?_
              refine zw_iload_n 94 rfl dX10_steep_93 rfl ?_
              refine zw_iconst 95 rfl dX10_steep_94 ?_
              refine zw_icmp_eq 113 98 rfl dX10_steep_95 (by decide) (by omega) (by omega) (fun h_95 => ?_) (fun h_95 => ?_)
              · refine zw_iconst 114 rfl dX10_steep_113 ?_
                refine zw_iadd 115 rfl dX10_steep_114 ?_
                refine zw_istore 117 rfl dX10_steep_115 (Nat.le_of_ble_eq_true rfl) rfl ?_
                refine zw_iinc 120 rfl dX10_steep_117 (Nat.le_of_ble_eq_true rfl) rfl rfl ?_
                refine zw_goto 56 dX10_steep_120 (by decide) ?_
                have ihm := ihm (i + 1) h3 (by omega) (by omega)
                simp only [zfold] at ihm
                rw [hI', hF', ← hc] at ihm
                first | (rw [if_pos (show what = 1 by omega)] at ihm) | (rw [if_neg (show ¬ what = 1 by omega)] at ihm)
                exact ihm
              · refine zw_iconst 99 rfl dX10_steep_98 ?_
                refine zw_aload_n 100 rfl dX10_steep_99 rfl ?_
                refine zw_iload 102 rfl dX10_steep_100 rfl ?_
                refine zw_iload 104 rfl dX10_steep_102 rfl ?_
                refine zw_cVi2 107 rfl dX10_steep_104 kX10_steep_334 (Nat.le_of_ble_eq_true rfl) hq6.1 (c_stD hq6 hP1 hc1.2 (by omega) (by omega)) ?_
                refine zw_mmax 110 rfl dX10_steep_107 kmX10_342 ⟨Nat.le_of_ble_eq_true rfl, Nat.le_of_ble_eq_true rfl⟩ (by omega) (by omega) ?_
                refine zw_goto 114 dX10_steep_110 (by decide) ?_
                refine zw_iadd 115 rfl dX10_steep_114 ?_
                refine zw_istore 117 rfl dX10_steep_115 (Nat.le_of_ble_eq_true rfl) rfl ?_
                refine zw_iinc 120 rfl dX10_steep_117 (Nat.le_of_ble_eq_true rfl) rfl rfl ?_
                refine zw_goto 56 dX10_steep_120 (by decide) ?_
                have ihm := ihm (i + 1) h3 (by omega) (by omega)
                simp only [zfold] at ihm
                rw [hI', hF', ← hc] at ihm
                first | (rw [if_pos (show what = 1 by omega)] at ihm) | (rw [if_neg (show ¬ what = 1 by omega)] at ihm)
                exact ihm
            refine zw_iload 58 rfl dX10_steep_56 rfl ?_
            refine zw_aload_n 59 rfl dX10_steep_58 rfl ?_
            refine zw_geti 62 rfl dX10_steep_59 fl_X10_148 hq6.1 ?_
            rw [hwh.1.1]
            refine zw_icmp_ge 123 65 rfl dX10_steep_62 (by decide) (by omega) (by omega) (fun h_62 => ?_) (fun h_62 => ?_)
            · refine zw_iinc 126 rfl dX10_steep_123 (Nat.le_of_ble_eq_true rfl) rfl rfl ?_
              refine zw_goto 44 dX10_steep_126 (by decide) ?_
              refine zw_drop 6 ?_
              have ih := ih (j + 1) (by omega) (by omega)
              simp only [zfold] at ih
              rw [hO', hI] at ih
              rw [show ((A.1 of.toNat).1).toNat = i by omega] at ih
              exact ih
            · refine zw_iload 67 rfl dX10_steep_65 rfl ?_
              refine zw_iload_n 68 rfl dX10_steep_67 rfl ?_
              refine zw_iconst 69 rfl dX10_steep_68 ?_
              refine zw_icmp_eq 87 72 rfl dX10_steep_69 (by decide) (by omega) (by omega) (fun h_69 => ?_) (fun h_69 => ?_)
              · refine zw_iconst 88 rfl dX10_steep_87 ?_
                refine zw_iadd 89 rfl dX10_steep_88 ?_
                refine zw_istore 91 rfl dX10_steep_89 (Nat.le_of_ble_eq_true rfl) rfl ?_
                exact K91 (by omega) _ (by first | (rw [if_pos (show what = 2 by omega)]) | (rw [if_neg (show ¬ what = 2 by omega)]; rfl))
              · refine zw_iconst 73 rfl dX10_steep_72 ?_
                refine zw_aload_n 74 rfl dX10_steep_73 rfl ?_
                refine zw_iload 76 rfl dX10_steep_74 rfl ?_
                refine zw_iload 78 rfl dX10_steep_76 rfl ?_
                refine zw_cVi2 81 rfl dX10_steep_78 kX10_steep_331 (Nat.le_of_ble_eq_true rfl) hq6.1 (c_stR hq6 hP1 hc1.2 (by omega) (by omega)) ?_
                refine zw_mmax 84 rfl dX10_steep_81 kmX10_342 ⟨Nat.le_of_ble_eq_true rfl, Nat.le_of_ble_eq_true rfl⟩ (by omega) (by omega) ?_
                refine zw_goto 88 dX10_steep_84 (by decide) ?_
                refine zw_iadd 89 rfl dX10_steep_88 ?_
                refine zw_istore 91 rfl dX10_steep_89 (Nat.le_of_ble_eq_true rfl) rfl ?_
                exact K91 (by omega) _ (by first | (rw [if_pos (show what = 2 by omega)]) | (rw [if_neg (show ¬ what = 2 by omega)]; rfl))
        refine zw_iload 46 rfl dX10_steep_44 rfl ?_
        refine zw_aload_n 47 rfl dX10_steep_46 rfl ?_
        refine zw_geti 50 rfl dX10_steep_47 fl_X10_151 hq6.1 ?_
        rw [hwh.1.2]
        refine zw_icmp_ge 129 53 rfl dX10_steep_50 (by decide) (by omega) (by omega) (fun h_50 => ?_) (fun h_50 => ?_)
        · refine zw_iload 131 rfl dX10_steep_129 rfl ?_
          exact zw_iret (st := []) dX10_steep_131 rfl (xRead h (by simp only [if_pos hc1, if_pos hc2]) xScr.z rfl (zu_eq _ _ _ _) (by rw [hE, hO, show j = (A.1 of.toNat).2.1.toNat by omega]) rfl)
        · refine zw_iconst 54 rfl dX10_steep_53 ?_
          refine zw_istore 56 rfl dX10_steep_54 (Nat.le_of_ble_eq_true rfl) rfl ?_
          exact inner ((A.1 of.toNat).1.toNat + 1) 0 (by omega) (by omega) (by omega)
    refine zw_aload_n 32 rfl dX10_steep_31 rfl ?_
    refine zw_getr 35 rfl dX10_steep_32 fl_X10_11 (by first | assumption | exact zx_o0 | exact zx_o _ _ _ rfl) (by first | assumption | exact zx_f0 _ _ rfl | exact zx_f _ _ _ rfl) ?_
    refine zw_iload_n 36 rfl dX10_steep_35 rfl ?_
    refine zw_aald 37 rfl dX10_steep_36 (by first | assumption | exact zx_o0 | exact zx_o _ _ _ rfl) (by omega) (by omega) (by first | assumption | exact zx_p6r (by omega)) ?_
    refine zw_astore_n 38 rfl dX10_steep_37 (Nat.le_of_ble_eq_true rfl) rfl ?_
    refine zw_iconst 39 rfl dX10_steep_38 ?_
    refine zw_istore 41 rfl dX10_steep_39 (Nat.le_of_ble_eq_true rfl) rfl ?_
    refine zw_iconst 42 rfl dX10_steep_41 ?_
    refine zw_istore 44 rfl dX10_steep_42 (Nat.le_of_ble_eq_true rfl) rfl ?_
    exact outer ((A.1 of.toNat).2.1.toNat + 1) 0 (by omega) (by omega)
  have J : ∀ v : Int, v = (if aTold A of then if 0 ≤ what ∧ what ≤ 2 then 0 else 1 else 1) → zW G M_X10_steep (xQ B (sp_steep A of what)) 23 [some (.ref B), some (vi of), some (vi what), none, none, none, none] [vi v, .ref B] (zxS B, σ, τ) := by
    intro v hv

    refine zw_cVi1 26 rfl dX10_steep_23 kX10_steep_105 (Nat.le_of_ble_eq_true rfl) (by first | assumption | exact zx_o0 | exact zx_o _ _ _ rfl) (c_refused (by rw [hv]; (repeat' split) <;> omega)) ?_
    refine zw_if_eqB 31 29 rfl dX10_steep_26 (by decide) (fun h_26 => ?_) (fun h_26 => ?_)
    · have hc1 : aTold A of := Decidable.byContradiction fun q => by rw [if_neg q] at hv; (try split at hv) <;> omega
      rw [if_pos hc1] at hv
      have hc2 : 0 ≤ what ∧ what ≤ 2 := Decidable.byContradiction fun q => by rw [if_neg q] at hv; (try split at hv) <;> omega
      rw [if_pos hc2] at hv
      subst hv
      exact body hc1 hc2
    · refine zw_iconst 30 rfl dX10_steep_29 ?_
      subst hv
      exact zw_iret (st := []) dX10_steep_30 rfl (xRef h h_26 (by (repeat' split) <;> omega))
  refine zw_aload_n 1 rfl dX10_steep_0 rfl ?_
  refine zw_aload_n 2 rfl dX10_steep_1 rfl ?_
  refine zw_iload_n 3 rfl dX10_steep_2 rfl ?_
  refine zw_cVi1 6 rfl dX10_steep_3 kX10_steep_145 (Nat.le_of_ble_eq_true rfl) (by first | assumption | exact zx_o0 | exact zx_o _ _ _ rfl) (c_told h.p hof) ?_
  refine zw_if_eqB 22 9 rfl dX10_steep_6 (by decide) (fun h_6 => ?_) (fun h_6 => ?_)
  · refine zw_iconst 23 rfl dX10_steep_22 ?_
    exact J _ (by simp only [if_neg h_6])
  · refine zw_iload_n 10 rfl dX10_steep_9 rfl ?_
    refine zw_iconst 11 rfl dX10_steep_10 ?_
    refine zw_iconst 12 rfl dX10_steep_11 ?_
    refine zw_cSi3 15 rfl dX10_steep_12 kX10_steep_101 (Nat.le_of_ble_eq_true rfl) (c_within (by omega) (by omega) (by omega)) ?_
    refine zw_if_eqB 22 18 rfl dX10_steep_15 (by decide) (fun h_15 => ?_) (fun h_15 => ?_)
    · refine zw_iconst 23 rfl dX10_steep_22 ?_
      exact J _ (by simp only [if_pos h_6, if_neg h_15])
    · refine zw_iconst 19 rfl dX10_steep_18 ?_
      refine zw_goto 23 dX10_steep_19 (by decide) ?_
      exact J _ (by simp only [if_pos h_6, if_pos h_15])
/-! ===== ranked, line ===== -/
def sp_ranked (A : zA) (of i : Int) : Int × zA := aAns (if aTold A of then if 0 ≤ i ∧ i ≤ (A.1 of.toNat).1 * (A.1 of.toNat).2.1 - 1 then 0 else 1 else 1) (-1) A (zrk (fun v => aMany (A.1 of.toNat) v) 256 0 i, A)
theorem X_ranked {G : zG} {B : Nat} {σ τ : zSt} {A : zA} {of i : Int} (h : zxR B σ τ A) (hof : -2147483648 ≤ of ∧ of ≤ 2147483647) (hi : -2147483648 ≤ i ∧ i ≤ 2147483647) : zC G M_X10_ranked [.ref B, vi of, vi i] (zxS B, σ, τ) (xQ B (sp_ranked A of i)) := by
  refine zC_of 0 rfl (Nat.le_of_ble_eq_true rfl) ?_
  have J : ∀ v : Int, v = (if aTold A of then if 0 ≤ i ∧ i ≤ (A.1 of.toNat).1 * (A.1 of.toNat).2.1 - 1 then 0 else 1 else 1) → zW G M_X10_ranked (xQ B (sp_ranked A of i)) 33 [some (.ref B), some (vi of), some (vi i)] [vi v, .ref B] (zxS B, σ, τ) := by
    intro v hv

    refine zw_cVi1 36 rfl dX10_ranked_33 kX10_ranked_105 (Nat.le_of_ble_eq_true rfl) (by first | assumption | exact zx_o0 | exact zx_o _ _ _ rfl) (c_refused (by rw [hv]; (repeat' split) <;> omega)) ?_
    refine zw_if_eqB 41 39 rfl dX10_ranked_36 (by decide) (fun h_36 => ?_) (fun h_36 => ?_)
    · have hc1 : aTold A of := Decidable.byContradiction fun q => by rw [if_neg q] at hv; (try split at hv) <;> omega
      rw [if_pos hc1] at hv
      have hc2 : 0 ≤ i ∧ i ≤ (A.1 of.toNat).1 * (A.1 of.toNat).2.1 - 1 := Decidable.byContradiction fun q => by rw [if_neg q] at hv; (try split at hv) <;> omega
      rw [if_pos hc2] at hv
      subst hv
      have hP1 := (xScr.z (v := 0)).P h.p of.toNat (by omega)
      have hq6 := (zx_p6 (B := B) (i := of.toNat) (by omega))
      have hwh := hP1.wh hc1.2
      have hcn := zz_wh (w := (A.1 of.toNat).1) (h := (A.1 of.toNat).2.1) (by omega) (by omega)
      refine zw_aload_n 42 rfl dX10_ranked_41 rfl ?_
      refine zw_aload_n 43 rfl dX10_ranked_42 rfl ?_
      refine zw_getr 46 rfl dX10_ranked_43 fl_X10_11 (by first | assumption | exact zx_o0 | exact zx_o _ _ _ rfl) (by first | assumption | exact zx_f0 _ _ rfl | exact zx_f _ _ _ rfl) ?_
      refine zw_iload_n 47 rfl dX10_ranked_46 rfl ?_
      refine zw_aald 48 rfl dX10_ranked_47 (by first | assumption | exact zx_o0 | exact zx_o _ _ _ rfl) (by omega) (by omega) (by first | assumption | exact zx_p6r (by omega)) ?_
      refine zw_cVi1 51 rfl dX10_ranked_48 kX10_ranked_164 (Nat.le_of_ble_eq_true rfl) (by first | assumption | exact zx_o0 | exact zx_o _ _ _ rfl) (c_tallied hq6 hP1 hc1.2 (by simp only [zpa]; omega)) ?_
      refine zw_iload_n 52 rfl dX10_ranked_51 rfl ?_
      refine zw_cVi1 55 rfl dX10_ranked_52 kX10_ranked_359 (Nat.le_of_ble_eq_true rfl) (by first | assumption | exact zx_o0 | exact zx_o _ _ _ rfl) (c_ofRank zx_tal (fun v hv => by rw [zTs_t, aTal_full]; have := (hP1.tk (σ' := zu σ B 17 0) (tt := B + 66) hc1.2).2.2 v hv; have := zz_nn hwh.2.1 hwh.2.2; omega) (by omega)) ?_
      exact zw_iret (st := []) dX10_ranked_55 rfl (xRead h (by simp only [if_pos hc1, if_pos hc2]) (xScr.z.tr xScr.tal) rfl (by rw [zTs_o _ _ (by omega) (by omega), zu_eq]) (by rw [zTs_t, aTal_full]; exact zrk_c 256 0 i (fun v _ hv => aTal_many (by omega) (by simp [zT0]; omega))) rfl)
    · refine zw_iconst 40 rfl dX10_ranked_39 ?_
      subst hv
      exact zw_iret (st := []) dX10_ranked_40 rfl (xRef h h_36 (by (repeat' split) <;> omega))
  refine zw_aload_n 1 rfl dX10_ranked_0 rfl ?_
  refine zw_aload_n 2 rfl dX10_ranked_1 rfl ?_
  refine zw_iload_n 3 rfl dX10_ranked_2 rfl ?_
  refine zw_cVi1 6 rfl dX10_ranked_3 kX10_ranked_145 (Nat.le_of_ble_eq_true rfl) (by first | assumption | exact zx_o0 | exact zx_o _ _ _ rfl) (c_told h.p hof) ?_
  refine zw_if_eqB 32 9 rfl dX10_ranked_6 (by decide) (fun h_6 => ?_) (fun h_6 => ?_)
  · refine zw_iconst 33 rfl dX10_ranked_32 ?_
    exact J _ (by simp only [if_neg h_6])
  · have hwh := (h.p of.toNat (by omega)).wh h_6.2
    have hcn := zz_wh (w := (A.1 of.toNat).1) (h := (A.1 of.toNat).2.1) (by omega) (by omega)
    refine zw_iload_n 10 rfl dX10_ranked_9 rfl ?_
    refine zw_iconst 11 rfl dX10_ranked_10 ?_
    refine zw_aload_n 12 rfl dX10_ranked_11 rfl ?_
    refine zw_getr 15 rfl dX10_ranked_12 fl_X10_11 (by first | assumption | exact zx_o0 | exact zx_o _ _ _ rfl) (by first | assumption | exact zx_f0 _ _ rfl | exact zx_f _ _ _ rfl) ?_
    refine zw_iload_n 16 rfl dX10_ranked_15 rfl ?_
    refine zw_aald 17 rfl dX10_ranked_16 (by first | assumption | exact zx_o0 | exact zx_o _ _ _ rfl) (by omega) (by omega) (by first | assumption | exact zx_p6r (by omega)) ?_
    refine zw_cVi0 20 rfl dX10_ranked_17 kX10_ranked_212 (Nat.le_of_ble_eq_true rfl) (zx_p6 (by omega)).1 (c_count (zx_p6 (by omega))) ?_
    refine zw_iconst 21 rfl dX10_ranked_20 ?_
    refine zw_isub 22 rfl dX10_ranked_21 ?_
    refine zw_cSi3 25 rfl dX10_ranked_22 kX10_ranked_101 (Nat.le_of_ble_eq_true rfl) (c_within (by omega) (by omega) (by rw [hwh.1.1, hwh.1.2]; omega)) ?_
    rw [hwh.1.1, hwh.1.2]
    refine zw_if_eqB 32 28 rfl dX10_ranked_25 (by decide) (fun h_25 => ?_) (fun h_25 => ?_)
    · refine zw_iconst 33 rfl dX10_ranked_32 ?_
      exact J _ (by simp only [if_pos h_6, if_neg h_25])
    · refine zw_iconst 29 rfl dX10_ranked_28 ?_
      refine zw_goto 33 dX10_ranked_29 (by decide) ?_
      exact J _ (by simp only [if_pos h_6, if_pos h_25])
def aLine (p : zPc) (kind at' : Int) : Int := if kind = 0 then zfold (fun k s => s + p.2.2 k at') p.1.toNat 0 else zfold (fun k s => s + p.2.2 at' k) p.2.1.toNat 0
def sp_line (A : zA) (of kind at' : Int) : Int × zA := aAns (if kind = 0 then if aDot A of 0 at' then 0 else 1 else if kind = 1 then if aDot A of at' 0 then 0 else 1 else 1) (-1) A (aLine (A.1 of.toNat) kind at', A)
theorem aLine_0 {p : zPc} {y : Int} (h0 : 0 < p.1) (hy : 0 ≤ y ∧ y < p.2.1) : aWS p 0 y p.1 1 = zfold (fun k s => s + p.2.2 k y) p.1.toNat 0 := by
  unfold aWS aWin zwin zmx zmn
  have e0 : (if (0 : Int) < 0 then (0 : Int) else 0) = 0 := by split <;> omega
  have e3 : (if p.1 < 0 + p.1 then p.1 else 0 + p.1) = p.1 := by split <;> omega
  rw [e0, e3, show (p.1 - 0).toNat = p.1.toNat by omega]
  have e1 : (if 0 < y then y else 0) = y := by split <;> omega
  have e2 : (if p.2.1 < y + 1 then p.2.1 else y + 1) = y + 1 := by split <;> omega
  rw [e1, e2, show (y + 1 - y).toNat = 1 by omega]
  simp only [zfold]
  exact zfold_cong _ _ (fun i b hi => by simp)
theorem aLine_1 {p : zPc} {x : Int} (h0 : 0 < p.2.1) (hx : 0 ≤ x ∧ x < p.1) : aWS p x 0 1 p.2.1 = zfold (fun k s => s + p.2.2 x k) p.2.1.toNat 0 := by
  unfold aWS aWin zwin zmx zmn
  have e1 : (if 0 < x then x else 0) = x := by split <;> omega
  have e2 : (if p.1 < x + 1 then p.1 else x + 1) = x + 1 := by split <;> omega
  rw [e1, e2, if_neg (by omega), if_neg (by omega), show (x + 1 - x).toNat = 1 by omega, show (0 + p.2.1 - 0).toNat = p.2.1.toNat by omega]
  simp only [zfold]
  exact zfold_cong _ _ (fun i b hi => by simp)
theorem X_line {G : zG} {B : Nat} {σ τ : zSt} {A : zA} {of kind at' : Int} (h : zxR B σ τ A) (hof : -2147483648 ≤ of ∧ of ≤ 2147483647) (hk : -2147483648 ≤ kind ∧ kind ≤ 2147483647) (hat : -2147483648 ≤ at' ∧ at' ≤ 2147483647) : zC G M_X10_line [.ref B, vi of, vi kind, vi at'] (zxS B, σ, τ) (xQ B (sp_line A of kind at')) := by
  refine zC_of 1 rfl (Nat.le_of_ble_eq_true rfl) ?_
  have J : ∀ v : Int, v = (if kind = 0 then if aDot A of 0 at' then 0 else 1 else if kind = 1 then if aDot A of at' 0 then 0 else 1 else 1) → zW G M_X10_line (xQ B (sp_line A of kind at')) 35 [some (.ref B), some (vi of), some (vi kind), some (vi at'), none] [vi v, .ref B] (zxS B, σ, τ) := by
    intro v hv

    refine zw_cVi1 38 rfl dX10_line_35 kX10_line_105 (Nat.le_of_ble_eq_true rfl) (by first | assumption | exact zx_o0 | exact zx_o _ _ _ rfl) (c_refused (by rw [hv]; (repeat' split) <;> omega)) ?_
    refine zw_if_eqB 43 41 rfl dX10_line_38 (by decide) (fun h_38 => ?_) (fun h_38 => ?_)
    · have hv0 : v = 0 := by omega
      have ht : aTold A of := by
        revert hv; (repeat' split) <;> intro hv <;> first | omega | (rename_i q; exact q.1)
      have hP1 := (xScr.z (v := v)).P h.p of.toNat (by omega)
      have hq6 := (zx_p6 (B := B) (i := of.toNat) (by omega))
      have hwh := hP1.wh ht.2
      have hdr : aDots (A.1 of.toNat) := fun x y hx hy => ((hP1.2.2 ht.2).2.2 x y hx hy).2
      refine zw_aload_n 44 rfl dX10_line_43 rfl ?_
      refine zw_getr 47 rfl dX10_line_44 fl_X10_11 (by first | assumption | exact zx_o0 | exact zx_o _ _ _ rfl) (by first | assumption | exact zx_f0 _ _ rfl | exact zx_f _ _ _ rfl) ?_
      refine zw_iload_n 48 rfl dX10_line_47 rfl ?_
      refine zw_aald 49 rfl dX10_line_48 (by first | assumption | exact zx_o0 | exact zx_o _ _ _ rfl) (by omega) (by omega) (by first | assumption | exact zx_p6r (by omega)) ?_
      refine zw_astore 51 rfl dX10_line_49 (Nat.le_of_ble_eq_true rfl) rfl ?_
      refine zw_iload_n 52 rfl dX10_line_51 rfl ?_
      refine zw_if_ne 75 55 rfl dX10_line_52 (by decide) (by omega) (fun h_52 => ?_) (fun h_52 => ?_)
      · have hd1 : kind = 1 ∧ aDot A of at' 0 := by
          rw [if_neg h_52] at hv
          by_cases q : kind = 1
          · rw [if_pos q] at hv
            exact ⟨q, Decidable.byContradiction fun r => by rw [if_neg r] at hv; omega⟩
          · rw [if_neg q] at hv; omega
        refine zw_aload_n 76 rfl dX10_line_75 rfl ?_
        refine zw_aload 78 rfl dX10_line_76 rfl ?_
        refine zw_iload_n 79 rfl dX10_line_78 rfl ?_
        refine zw_iconst 80 rfl dX10_line_79 ?_
        refine zw_iconst 81 rfl dX10_line_80 ?_
        refine zw_aload 83 rfl dX10_line_81 rfl ?_
        refine zw_geti 86 rfl dX10_line_83 fl_X10_151 hq6.1 ?_
        rw [hwh.1.2]
        refine zw_cVi5 89 rfl dX10_line_86 kX10_line_309 (Nat.le_of_ble_eq_true rfl) (by first | assumption | exact zx_o0 | exact zx_o _ _ _ rfl) (c_tallPart hq6 hP1 ht.2 (by omega) (by omega) (by omega) (by omega) (by simp only [zpa]; omega)) ?_
        refine zw_geti 92 rfl dX10_line_89 fl_X10_362 (by first | assumption | exact zx_o0 | exact zx_o _ _ _ rfl) ?_
        refine zw_iret (st := []) dX10_line_92 rfl (xRead h (by rw [← hv]; exact hv0) (xScr.z.tr xScr.tal) rfl (by rw [zTs_o _ _ (by omega) (by omega), zu_eq]; exact hv0) ?_ rfl)
        rw [(zTs_a _ _ (by omega)).2, (aTal_ok hdr).1.2.1]
        unfold aLine
        first | (rw [if_pos h_52]; exact aLine_0 ht.2 hd0.2.2) | (rw [if_neg h_52]; exact aLine_1 (by omega) hd1.2.2.1)
      · have hd0 : aDot A of 0 at' := Decidable.byContradiction fun q => by rw [if_pos h_52, if_neg q] at hv; omega
        refine zw_aload_n 56 rfl dX10_line_55 rfl ?_
        refine zw_aload 58 rfl dX10_line_56 rfl ?_
        refine zw_iconst 59 rfl dX10_line_58 ?_
        refine zw_iload_n 60 rfl dX10_line_59 rfl ?_
        refine zw_aload 62 rfl dX10_line_60 rfl ?_
        refine zw_geti 65 rfl dX10_line_62 fl_X10_148 hq6.1 ?_
        rw [hwh.1.1]
        refine zw_iconst 66 rfl dX10_line_65 ?_
        refine zw_cVi5 69 rfl dX10_line_66 kX10_line_309 (Nat.le_of_ble_eq_true rfl) (by first | assumption | exact zx_o0 | exact zx_o _ _ _ rfl) (c_tallPart hq6 hP1 ht.2 (by omega) (by omega) (by omega) (by omega) (by simp only [zpa]; omega)) ?_
        refine zw_geti 72 rfl dX10_line_69 fl_X10_362 (by first | assumption | exact zx_o0 | exact zx_o _ _ _ rfl) ?_
        refine zw_goto 92 dX10_line_72 (by decide) ?_
        refine zw_iret (st := []) dX10_line_92 rfl (xRead h (by rw [← hv]; exact hv0) (xScr.z.tr xScr.tal) rfl (by rw [zTs_o _ _ (by omega) (by omega), zu_eq]; exact hv0) ?_ rfl)
        rw [(zTs_a _ _ (by omega)).2, (aTal_ok hdr).1.2.1]
        unfold aLine
        first | (rw [if_pos h_52]; exact aLine_0 ht.2 hd0.2.2) | (rw [if_neg h_52]; exact aLine_1 (by omega) hd1.2.2.1)
    · refine zw_iconst 42 rfl dX10_line_41 ?_
      subst hv
      exact zw_iret (st := []) dX10_line_42 rfl (xRef h h_38 (by (repeat' split) <;> omega))
  refine zw_aload_n 1 rfl dX10_line_0 rfl ?_
  refine zw_iload_n 2 rfl dX10_line_1 rfl ?_
  refine zw_if_ne 15 5 rfl dX10_line_2 (by decide) (by omega) (fun h_2 => ?_) (fun h_2 => ?_)
  · refine zw_iload_n 16 rfl dX10_line_15 rfl ?_
    refine zw_iconst 17 rfl dX10_line_16 ?_
    refine zw_icmp_ne 34 20 rfl dX10_line_17 (by decide) (by omega) (by omega) (fun h_17 => ?_) (fun h_17 => ?_)
    · refine zw_iconst 35 rfl dX10_line_34 ?_
      exact J _ (by first | (simp only [if_neg h_2, if_neg h_17]; done) | (exfalso; omega) | (rw [if_pos (by omega), if_pos (by assumption)]) | (rw [if_pos (by omega), if_neg (by assumption)]))
    · refine zw_aload_n 21 rfl dX10_line_20 rfl ?_
      refine zw_iload_n 22 rfl dX10_line_21 rfl ?_
      refine zw_iload_n 23 rfl dX10_line_22 rfl ?_
      refine zw_iconst 24 rfl dX10_line_23 ?_
      refine zw_cVi3 27 rfl dX10_line_24 kX10_line_171 (Nat.le_of_ble_eq_true rfl) (by first | assumption | exact zx_o0 | exact zx_o _ _ _ rfl) (c_hasDot h.p hof hat (by omega)) ?_
      refine zw_if_eqB 34 30 rfl dX10_line_27 (by decide) (fun h_27 => ?_) (fun h_27 => ?_)
      · refine zw_iconst 35 rfl dX10_line_34 ?_
        exact J _ (by first | (simp only [if_neg h_2, if_pos h_17, if_neg h_27]; done) | (exfalso; omega) | (rw [if_pos (by omega), if_pos (by assumption)]) | (rw [if_pos (by omega), if_neg (by assumption)]))
      · refine zw_iconst 31 rfl dX10_line_30 ?_
        refine zw_goto 35 dX10_line_31 (by decide) ?_
        exact J _ (by first | (simp only [if_neg h_2, if_pos h_17, if_pos h_27]; done) | (exfalso; omega) | (rw [if_pos (by omega), if_pos (by assumption)]) | (rw [if_pos (by omega), if_neg (by assumption)]))
  · refine zw_aload_n 6 rfl dX10_line_5 rfl ?_
    refine zw_iload_n 7 rfl dX10_line_6 rfl ?_
    refine zw_iconst 8 rfl dX10_line_7 ?_
    refine zw_iload_n 9 rfl dX10_line_8 rfl ?_
    refine zw_cVi3 12 rfl dX10_line_9 kX10_line_171 (Nat.le_of_ble_eq_true rfl) (by first | assumption | exact zx_o0 | exact zx_o _ _ _ rfl) (c_hasDot h.p hof (by omega) hat) ?_
    refine zw_if_neB 30 15 rfl dX10_line_12 (by decide) (fun h_12 => ?_) (fun h_12 => ?_)
    · refine zw_iconst 31 rfl dX10_line_30 ?_
      refine zw_goto 35 dX10_line_31 (by decide) ?_
      exact J _ (by first | (simp only [if_pos h_2, if_pos h_12]; done) | (exfalso; omega) | (rw [if_pos (by omega), if_pos (by assumption)]) | (rw [if_pos (by omega), if_neg (by assumption)]))
    · refine zw_iload_n 16 rfl dX10_line_15 rfl ?_
      refine zw_iconst 17 rfl dX10_line_16 ?_
      refine zw_icmp_ne 34 20 rfl dX10_line_17 (by decide) (by omega) (by omega) (fun h_17 => ?_) (fun h_17 => ?_)
      · refine zw_iconst 35 rfl dX10_line_34 ?_
        exact J _ (by first | (simp only [if_pos h_2, if_neg h_12, if_neg h_17]; done) | (exfalso; omega) | (rw [if_pos (by omega), if_pos (by assumption)]) | (rw [if_pos (by omega), if_neg (by assumption)]))
      · refine zw_aload_n 21 rfl dX10_line_20 rfl ?_
        refine zw_iload_n 22 rfl dX10_line_21 rfl ?_
        refine zw_iload_n 23 rfl dX10_line_22 rfl ?_
        refine zw_iconst 24 rfl dX10_line_23 ?_
        refine zw_cVi3 27 rfl dX10_line_24 kX10_line_171 (Nat.le_of_ble_eq_true rfl) (by first | assumption | exact zx_o0 | exact zx_o _ _ _ rfl) (c_hasDot h.p hof hat (by omega)) ?_
        refine zw_if_eqB 34 30 rfl dX10_line_27 (by decide) (fun h_27 => ?_) (fun h_27 => ?_)
        · refine zw_iconst 35 rfl dX10_line_34 ?_
          exact J _ (by first | (simp only [if_pos h_2, if_neg h_12, if_pos h_17, if_neg h_27]; done) | (exfalso; omega) | (rw [if_pos (by omega), if_pos (by assumption)]) | (rw [if_pos (by omega), if_neg (by assumption)]))
        · refine zw_iconst 31 rfl dX10_line_30 ?_
          refine zw_goto 35 dX10_line_31 (by decide) ?_
          exact J _ (by first | (simp only [if_pos h_2, if_neg h_12, if_pos h_17, if_pos h_27]; done) | (exfalso; omega) | (rw [if_pos (by omega), if_pos (by assumption)]) | (rw [if_pos (by omega), if_neg (by assumption)]))
