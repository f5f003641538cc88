theorem xPF.scr {B : Nat} {σ σs : zSt} {p : zPc} {v : Int} (hm : xPF B (zu σ B 17 v) p σs) : xScr B σ σs := (xScr.z (v := v)).tr ⟨fun k hk => by rw [hm.1 B (by omega)], fun b h1 h2 h3 => hm.1 b (by omega)⟩
theorem X_pairs {G : zG} {B : Nat} {σ τ : zSt} {A : zA} {of : Int} (h : zxR B σ τ A) (hof : -2147483648 ≤ of ∧ of ≤ 2147483647) : zC G M_X10_pairs [.ref B, vi of] (zxS B, σ, τ) (xQ B (sp_pairs A of)) := by
  refine zC_of 0 rfl (Nat.le_of_ble_eq_true rfl) ?_
  have J : ∀ v : Int, v = (if aTold A of then 0 else 1) → zW G M_X10_pairs (xQ B (sp_pairs A of)) 14 [some (.ref B), some (vi of)] [vi v, .ref B] (zxS B, σ, τ) := by
    intro v hv

    refine zw_cVi1 17 rfl dX10_pairs_14 kX10_pairs_105 (Nat.le_of_ble_eq_true rfl) (by first | assumption | exact zx_o0 | exact zx_o _ _ _ rfl) (c_refused (by rw [hv]; (repeat' split) <;> omega)) ?_
    refine zw_if_eqB 22 20 rfl dX10_pairs_17 (by decide) (fun h_17 => ?_) (fun h_17 => ?_)
    · have hc1 : aTold A of := Decidable.byContradiction fun q => by rw [if_neg q] at hv; (try split at hv) <;> omega
      rw [if_pos hc1] at hv
      subst hv
      have hP1 := (xScr.z (v := 0)).P h.p of.toNat (by omega)
      have hq6 := (zx_p6 (B := B) (i := of.toNat) (by omega))
      have hwh := hP1.wh hc1.2
      refine zw_aload_n 23 rfl dX10_pairs_22 rfl ?_
      refine zw_getr 26 rfl dX10_pairs_23 fl_X10_85 (by first | assumption | exact zx_o0 | exact zx_o _ _ _ rfl) (by first | assumption | exact zx_f0 _ _ rfl | exact zx_f _ _ _ rfl) ?_
      refine zw_aload_n 27 rfl dX10_pairs_26 rfl ?_
      refine zw_getr 30 rfl dX10_pairs_27 fl_X10_11 (by first | assumption | exact zx_o0 | exact zx_o _ _ _ rfl) (by first | assumption | exact zx_f0 _ _ rfl | exact zx_f _ _ _ rfl) ?_
      refine zw_iload_n 31 rfl dX10_pairs_30 rfl ?_
      refine zw_aald 32 rfl dX10_pairs_31 (by first | assumption | exact zx_o0 | exact zx_o _ _ _ rfl) (by omega) (by omega) (by first | assumption | exact zx_p6r (by omega)) ?_
      refine zw_cVr1 35 rfl dX10_pairs_32 kX10_pairs_364 (Nat.le_of_ble_eq_true rfl) (by first | assumption | exact zx_o0 | exact zx_o _ _ _ rfl) (c_findPairs hq6 hP1 hc1.2 (by simp only [zpa]; omega)) ?_
      rintro _ _ ⟨rfl, σ2, rfl, hm⟩
      refine zw_aload_n 36 rfl dX10_pairs_35 rfl ?_
      refine zw_getr 39 rfl dX10_pairs_36 fl_X10_85 (by first | assumption | exact zx_o0 | exact zx_o _ _ _ rfl) (by first | assumption | exact zx_f0 _ _ rfl | exact zx_f _ _ _ rfl) ?_
      refine zw_geti 42 rfl dX10_pairs_39 fl_X10_366 (by first | assumption | exact zx_o0 | exact zx_o _ _ _ rfl) ?_
      exact zw_iret (st := []) dX10_pairs_42 rfl (xRead h (by simp only [if_pos hc1]) hm.scr rfl (by rw [hm.1 B (by omega), zu_eq]) hm.2.2.1 rfl)
    · refine zw_iconst 21 rfl dX10_pairs_20 ?_
      subst hv
      exact zw_iret (st := []) dX10_pairs_21 rfl (xRef h h_17 (by (repeat' split) <;> omega))
  refine zw_aload_n 1 rfl dX10_pairs_0 rfl ?_
  refine zw_aload_n 2 rfl dX10_pairs_1 rfl ?_
  refine zw_iload_n 3 rfl dX10_pairs_2 rfl ?_
  refine zw_cVi1 6 rfl dX10_pairs_3 kX10_pairs_145 (Nat.le_of_ble_eq_true rfl) (by first | assumption | exact zx_o0 | exact zx_o _ _ _ rfl) (c_told h.p hof) ?_
  refine zw_if_eqB 13 9 rfl dX10_pairs_6 (by decide) (fun h_6 => ?_) (fun h_6 => ?_)
  · refine zw_iconst 14 rfl dX10_pairs_13 ?_
    exact J _ (by simp only [if_neg h_6])
  · refine zw_iconst 10 rfl dX10_pairs_9 ?_
    refine zw_goto 14 dX10_pairs_10 (by decide) ?_
    exact J _ (by simp only [if_pos h_6])
theorem X_pair {G : zG} {B : Nat} {σ τ : zSt} {A : zA} {of what : Int} (h : zxR B σ τ A) (hof : -2147483648 ≤ of ∧ of ≤ 2147483647) (hwhat : -2147483648 ≤ what ∧ what ≤ 2147483647) : zC G M_X10_pair [.ref B, vi of, vi what] (zxS B, σ, τ) (xQ B (sp_pair A of what)) := by
  refine zC_of 0 rfl (Nat.le_of_ble_eq_true rfl) ?_
  have J : ∀ v : Int, v = (if aTold A of then if 0 ≤ what ∧ what ≤ 2 then 0 else 1 else 1) → zW G M_X10_pair (xQ B (sp_pair A of what)) 23 [some (.ref B), some (vi of), some (vi what)] [vi v, .ref B] (zxS B, σ, τ) := by
    intro v hv

    refine zw_cVi1 26 rfl dX10_pair_23 kX10_pair_105 (Nat.le_of_ble_eq_true rfl) (by first | assumption | exact zx_o0 | exact zx_o _ _ _ rfl) (c_refused (by rw [hv]; (repeat' split) <;> omega)) ?_
    refine zw_if_eqB 31 29 rfl dX10_pair_26 (by decide) (fun h_26 => ?_) (fun h_26 => ?_)
    · have hc1 : aTold A of := Decidable.byContradiction fun q => by rw [if_neg q] at hv; (try split at hv) <;> omega
      rw [if_pos hc1] at hv
      have hc2 : 0 ≤ what ∧ what ≤ 2 := Decidable.byContradiction fun q => by rw [if_neg q] at hv; (try split at hv) <;> omega
      rw [if_pos hc2] at hv
      subst hv
      have hP1 := (xScr.z (v := 0)).P h.p of.toNat (by omega)
      have hq6 := (zx_p6 (B := B) (i := of.toNat) (by omega))
      have hwh := hP1.wh hc1.2
      refine zw_aload_n 32 rfl dX10_pair_31 rfl ?_
      refine zw_getr 35 rfl dX10_pair_32 fl_X10_85 (by first | assumption | exact zx_o0 | exact zx_o _ _ _ rfl) (by first | assumption | exact zx_f0 _ _ rfl | exact zx_f _ _ _ rfl) ?_
      refine zw_aload_n 36 rfl dX10_pair_35 rfl ?_
      refine zw_getr 39 rfl dX10_pair_36 fl_X10_11 (by first | assumption | exact zx_o0 | exact zx_o _ _ _ rfl) (by first | assumption | exact zx_f0 _ _ rfl | exact zx_f _ _ _ rfl) ?_
      refine zw_iload_n 40 rfl dX10_pair_39 rfl ?_
      refine zw_aald 41 rfl dX10_pair_40 (by first | assumption | exact zx_o0 | exact zx_o _ _ _ rfl) (by omega) (by omega) (by first | assumption | exact zx_p6r (by omega)) ?_
      refine zw_cVr1 44 rfl dX10_pair_41 kX10_pair_364 (Nat.le_of_ble_eq_true rfl) (by first | assumption | exact zx_o0 | exact zx_o _ _ _ rfl) (c_findPairs hq6 hP1 hc1.2 (by simp only [zpa]; omega)) ?_
      rintro _ _ ⟨rfl, σ2, rfl, hm⟩
      have hmv := hm.2.2.2.2.2
      have hm1 := hm.2.1
      have hm3 := hm.2.2.2.1
      have hm4 := hm.2.2.2.2.1
      refine zw_aload_n 45 rfl dX10_pair_44 rfl ?_
      refine zw_getr 48 rfl dX10_pair_45 fl_X10_85 (by first | assumption | exact zx_o0 | exact zx_o _ _ _ rfl) (by first | assumption | exact zx_f0 _ _ rfl | exact zx_f _ _ _ rfl) ?_
      refine zw_geti 51 rfl dX10_pair_48 fl_X10_368 (by first | assumption | exact zx_o0 | exact zx_o _ _ _ rfl) ?_
      rw [hm1]
      refine zw_if_ne 57 54 rfl dX10_pair_51 (by decide) (by omega) (fun h_51 => ?_) (fun h_51 => ?_)
      · refine zw_iload_n 58 rfl dX10_pair_57 rfl ?_
        refine zw_if_ne 75 61 rfl dX10_pair_58 (by decide) (by omega) (fun h_58 => ?_) (fun h_58 => ?_)
        · refine zw_iload_n 76 rfl dX10_pair_75 rfl ?_
          refine zw_iconst 77 rfl dX10_pair_76 ?_
          refine zw_icmp_ne 94 80 rfl dX10_pair_77 (by decide) (by omega) (by omega) (fun h_77 => ?_) (fun h_77 => ?_)
          · refine zw_aload_n 95 rfl dX10_pair_94 rfl ?_
            refine zw_getr 98 rfl dX10_pair_95 fl_X10_85 (by first | assumption | exact zx_o0 | exact zx_o _ _ _ rfl) (by first | assumption | exact zx_f0 _ _ rfl | exact zx_f _ _ _ rfl) ?_
            refine zw_geti 101 rfl dX10_pair_98 fl_X10_372 (by first | assumption | exact zx_o0 | exact zx_o _ _ _ rfl) ?_
            exact zw_iret (st := []) dX10_pair_101 rfl (xRead h (by simp only [if_pos hc1, if_pos hc2]) hm.scr rfl (by rw [hm.1 B (by omega), zu_eq]) (by rw [if_neg (c := (aPL (A.1 of.toNat)).length = 0) (by omega)]; first | (rw [if_pos h_58]; exact Int.tdiv_eq_ediv_of_nonneg (by omega)) | (rw [if_neg h_58, if_pos h_77]; exact Int.tmod_eq_emod_of_nonneg (by omega)) | (rw [if_neg h_58, if_neg h_77]; exact hm4) | (rw [if_pos h_58]) | (rw [if_neg h_58, if_pos h_77])) rfl)
          · refine zw_aload_n 81 rfl dX10_pair_80 rfl ?_
            refine zw_getr 84 rfl dX10_pair_81 fl_X10_85 (by first | assumption | exact zx_o0 | exact zx_o _ _ _ rfl) (by first | assumption | exact zx_f0 _ _ rfl | exact zx_f _ _ _ rfl) ?_
            refine zw_geti 87 rfl dX10_pair_84 fl_X10_369 (by first | assumption | exact zx_o0 | exact zx_o _ _ _ rfl) ?_
            rw [hm3]
            refine zw_sipush 90 rfl dX10_pair_87 rfl ?_
            refine zw_irem 91 rfl dX10_pair_90 (by omega) (by omega) ?_
            refine zw_goto 101 dX10_pair_91 (by decide) ?_
            exact zw_iret (st := []) dX10_pair_101 rfl (xRead h (by simp only [if_pos hc1, if_pos hc2]) hm.scr rfl (by rw [hm.1 B (by omega), zu_eq]) (by rw [if_neg (c := (aPL (A.1 of.toNat)).length = 0) (by omega)]; first | (rw [if_pos h_58]; exact Int.tdiv_eq_ediv_of_nonneg (by omega)) | (rw [if_neg h_58, if_pos h_77]; exact Int.tmod_eq_emod_of_nonneg (by omega)) | (rw [if_neg h_58, if_neg h_77]; exact hm4) | (rw [if_pos h_58]) | (rw [if_neg h_58, if_pos h_77])) rfl)
        · refine zw_aload_n 62 rfl dX10_pair_61 rfl ?_
          refine zw_getr 65 rfl dX10_pair_62 fl_X10_85 (by first | assumption | exact zx_o0 | exact zx_o _ _ _ rfl) (by first | assumption | exact zx_f0 _ _ rfl | exact zx_f _ _ _ rfl) ?_
          refine zw_geti 68 rfl dX10_pair_65 fl_X10_369 (by first | assumption | exact zx_o0 | exact zx_o _ _ _ rfl) ?_
          rw [hm3]
          refine zw_sipush 71 rfl dX10_pair_68 rfl ?_
          refine zw_idiv 72 rfl dX10_pair_71 (by omega) (by omega) ?_
          refine zw_goto 101 dX10_pair_72 (by decide) ?_
          exact zw_iret (st := []) dX10_pair_101 rfl (xRead h (by simp only [if_pos hc1, if_pos hc2]) hm.scr rfl (by rw [hm.1 B (by omega), zu_eq]) (by rw [if_neg (c := (aPL (A.1 of.toNat)).length = 0) (by omega)]; first | (rw [if_pos h_58]; exact Int.tdiv_eq_ediv_of_nonneg (by omega)) | (rw [if_neg h_58, if_pos h_77]; exact Int.tmod_eq_emod_of_nonneg (by omega)) | (rw [if_neg h_58, if_neg h_77]; exact hm4) | (rw [if_pos h_58]) | (rw [if_neg h_58, if_pos h_77])) rfl)
      · refine zw_bipush 56 rfl dX10_pair_54 rfl ?_
        exact zw_iret (st := []) dX10_pair_56 rfl (xRead h (by simp only [if_pos hc1, if_pos hc2]) hm.scr rfl (by rw [hm.1 B (by omega), zu_eq]) (by rw [if_pos (by omega)]) rfl)
    · refine zw_iconst 30 rfl dX10_pair_29 ?_
      subst hv
      exact zw_iret (st := []) dX10_pair_30 rfl (xRef h h_26 (by (repeat' split) <;> omega))
  refine zw_aload_n 1 rfl dX10_pair_0 rfl ?_
  refine zw_aload_n 2 rfl dX10_pair_1 rfl ?_
  refine zw_iload_n 3 rfl dX10_pair_2 rfl ?_
  refine zw_cVi1 6 rfl dX10_pair_3 kX10_pair_145 (Nat.le_of_ble_eq_true rfl) (by first | assumption | exact zx_o0 | exact zx_o _ _ _ rfl) (c_told h.p hof) ?_
  refine zw_if_eqB 22 9 rfl dX10_pair_6 (by decide) (fun h_6 => ?_) (fun h_6 => ?_)
  · refine zw_iconst 23 rfl dX10_pair_22 ?_
    exact J _ (by simp only [if_neg h_6])
  · refine zw_iload_n 10 rfl dX10_pair_9 rfl ?_
    refine zw_iconst 11 rfl dX10_pair_10 ?_
    refine zw_iconst 12 rfl dX10_pair_11 ?_
    refine zw_cSi3 15 rfl dX10_pair_12 kX10_pair_101 (Nat.le_of_ble_eq_true rfl) (c_within (by omega) (by omega) (by omega)) ?_
    refine zw_if_eqB 22 18 rfl dX10_pair_15 (by decide) (fun h_15 => ?_) (fun h_15 => ?_)
    · refine zw_iconst 23 rfl dX10_pair_22 ?_
      exact J _ (by simp only [if_pos h_6, if_neg h_15])
    · refine zw_iconst 19 rfl dX10_pair_18 ?_
      refine zw_goto 23 dX10_pair_19 (by decide) ?_
      exact J _ (by simp only [if_pos h_6, if_pos h_15])
