/-! ===== about ===== -/
theorem aUnl_n {t t' : Nat → Int} (n : Nat) (h : ∀ v, v < n → t v = t' v) : zfold (fun v (m : Int) => m + if 0 < t v then 1 else 0) n 0 = zfold (fun v (m : Int) => m + if 0 < t' v then 1 else 0) n 0 := zfold_cong n 0 (fun v m hv => by rw [h v hv])
theorem aUnl_c {t : Nat → Int} {p : zPc} (h : ∀ v, v < 256 → t v = aMany p v) : zfold (fun v (m : Int) => m + if 0 < t v then 1 else 0) 256 0 = aUnl p := by
  unfold aUnl
  exact aUnl_n (t' := fun v => aMany p v) 256 h
theorem X_about {G : zG} {B : Nat} {σ τ : zSt} {A : zA} {of what : Int} (h : zxR B σ τ A) (hof : -2147483648 ≤ of ∧ of ≤ 2147483647) (hwhat : -2147483648 ≤ what ∧ what ≤ 2147483647) : zC G M_X10_about [.ref B, vi of, vi what] (zxS B, σ, τ) (xQ B (sp_about A of what)) := by
  refine zC_of 1 rfl (Nat.le_of_ble_eq_true rfl) ?_
  have J : ∀ v : Int, v = (if aTold A of then if 0 ≤ what ∧ what ≤ 5 then 0 else 1 else 1) → zW G M_X10_about (xQ B (sp_about A of what)) 23 [some (.ref B), some (vi of), some (vi what), none] [vi v, .ref B] (zxS B, σ, τ) := by
    intro v hv

    refine zw_cVi1 26 rfl dX10_about_23 kX10_about_105 (Nat.le_of_ble_eq_true rfl) (by first | assumption | exact zx_o0 | exact zx_o _ _ _ rfl) (c_refused (by rw [hv]; (repeat' split) <;> omega)) ?_
    refine zw_if_eqB 31 29 rfl dX10_about_26 (by decide) (fun h_26 => ?_) (fun h_26 => ?_)
    · have hc1 : aTold A of := Decidable.byContradiction fun q => by rw [if_neg q] at hv; (try split at hv) <;> omega
      rw [if_pos hc1] at hv
      have hc2 : 0 ≤ what ∧ what ≤ 5 := Decidable.byContradiction fun q => by rw [if_neg q] at hv; (try split at hv) <;> omega
      rw [if_pos hc2] at hv
      subst hv
      have hP1 := (xScr.z (v := 0)).P h.p of.toNat (by omega)
      have hq6 := (zx_p6 (B := B) (i := of.toNat) (by omega))
      have hwh := hP1.wh hc1.2
      refine zw_aload_n 32 rfl dX10_about_31 rfl ?_
      refine zw_getr 35 rfl dX10_about_32 fl_X10_11 (by first | assumption | exact zx_o0 | exact zx_o _ _ _ rfl) (by first | assumption | exact zx_f0 _ _ rfl | exact zx_f _ _ _ rfl) ?_
      refine zw_iload_n 36 rfl dX10_about_35 rfl ?_
      refine zw_aald 37 rfl dX10_about_36 (by first | assumption | exact zx_o0 | exact zx_o _ _ _ rfl) (by omega) (by omega) (by first | assumption | exact zx_p6r (by omega)) ?_
      refine zw_astore_n 38 rfl dX10_about_37 (Nat.le_of_ble_eq_true rfl) rfl ?_
      refine zw_iload_n 39 rfl dX10_about_38 rfl ?_
      rcases (show what = 0 ∨ what = 1 ∨ what = 2 ∨ what = 3 ∨ what = 4 ∨ (what < 0 ∨ 4 < what) by omega) with h_39 | h_39 | h_39 | h_39 | h_39 | h_39
      · refine zw_tableIn (off := 33) 72 dX10_about_39 (by omega) (by omega) (by omega) (by rw [h_39]; rfl) (by decide) ?_
        refine zw_aload_n 73 rfl dX10_about_72 rfl ?_
        refine zw_geti 76 rfl dX10_about_73 fl_X10_148 hq6.1 ?_
        rw [hwh.1.1]
        exact zw_iret (st := []) dX10_about_76 rfl (xRead h (by simp only [if_pos hc1, if_pos hc2]) xScr.z rfl (zu_eq _ _ _ _) (by rw [if_pos h_39]) rfl)
      · refine zw_tableIn (off := 38) 77 dX10_about_39 (by omega) (by omega) (by omega) (by rw [h_39]; rfl) (by decide) ?_
        refine zw_aload_n 78 rfl dX10_about_77 rfl ?_
        refine zw_geti 81 rfl dX10_about_78 fl_X10_151 hq6.1 ?_
        rw [hwh.1.2]
        exact zw_iret (st := []) dX10_about_81 rfl (xRead h (by simp only [if_pos hc1, if_pos hc2]) xScr.z rfl (zu_eq _ _ _ _) (by rw [if_neg (by omega), if_pos h_39]) rfl)
      · refine zw_tableIn (off := 43) 82 dX10_about_39 (by omega) (by omega) (by omega) (by rw [h_39]; rfl) (by decide) ?_
        refine zw_aload_n 83 rfl dX10_about_82 rfl ?_
        refine zw_cVi0 86 rfl dX10_about_83 kX10_about_154 (Nat.le_of_ble_eq_true rfl) hq6.1 (c_leastP hq6 hP1 hc1.2) ?_
        exact zw_iret (st := []) dX10_about_86 rfl (xRead h (by simp only [if_pos hc1, if_pos hc2]) xScr.z rfl (zu_eq _ _ _ _) (by rw [if_neg (by omega), if_neg (by omega), if_pos h_39]) rfl)
      · refine zw_tableIn (off := 48) 87 dX10_about_39 (by omega) (by omega) (by omega) (by rw [h_39]; rfl) (by decide) ?_
        refine zw_aload_n 88 rfl dX10_about_87 rfl ?_
        refine zw_cVi0 91 rfl dX10_about_88 kX10_about_158 (Nat.le_of_ble_eq_true rfl) hq6.1 (c_greatestP hq6 hP1 hc1.2) ?_
        exact zw_iret (st := []) dX10_about_91 rfl (xRead h (by simp only [if_pos hc1, if_pos hc2]) xScr.z rfl (zu_eq _ _ _ _) (by rw [if_neg (by omega), if_neg (by omega), if_neg (by omega), if_pos h_39]) rfl)
      · refine zw_tableIn (off := 53) 92 dX10_about_39 (by omega) (by omega) (by omega) (by rw [h_39]; rfl) (by decide) ?_
        refine zw_aload_n 93 rfl dX10_about_92 rfl ?_
        refine zw_cVi0 96 rfl dX10_about_93 kX10_about_161 (Nat.le_of_ble_eq_true rfl) hq6.1 (c_togetherP hq6 hP1 hc1.2) ?_
        exact zw_iret (st := []) dX10_about_96 rfl (xRead h (by simp only [if_pos hc1, if_pos hc2]) xScr.z rfl (zu_eq _ _ _ _) (by rw [if_neg (by omega), if_neg (by omega), if_neg (by omega), if_neg (by omega), if_pos h_39]) rfl)
      · refine zw_tableOut 97 dX10_about_39 (by omega) h_39 (by decide) ?_
        refine zw_aload_n 98 rfl dX10_about_97 rfl ?_
        refine zw_aload_n 99 rfl dX10_about_98 rfl ?_
        refine zw_cVi1 102 rfl dX10_about_99 kX10_about_164 (Nat.le_of_ble_eq_true rfl) (by first | assumption | exact zx_o0 | exact zx_o _ _ _ rfl) (c_tallied hq6 hP1 hc1.2 (by simp only [zpa]; omega)) ?_
        refine zw_cVi0 105 rfl dX10_about_102 kX10_about_168 (Nat.le_of_ble_eq_true rfl) (by first | assumption | exact zx_o0 | exact zx_o _ _ _ rfl) (c_unlike zx_tal (fun v hv => by rw [zTs_t, aTal_full]; have := (hP1.tk (σ' := zu σ B 17 0) (tt := B + 66) hc1.2).2.2 v hv; have := zz_nn hwh.2.1 hwh.2.2; omega)) ?_
        exact zw_iret (st := []) dX10_about_105 rfl (xRead h (by simp only [if_pos hc1, if_pos hc2]) (xScr.z.tr xScr.tal) rfl (by rw [zTs_o _ _ (by omega) (by omega), zu_eq]) (by rw [if_neg (by omega), if_neg (by omega), if_neg (by omega), if_neg (by omega), if_neg (by omega), zTs_t, aTal_full]; exact aUnl_c (fun v hv => aTal_many hv (by simp [zT0, hv]))) rfl)
    · refine zw_iconst 30 rfl dX10_about_29 ?_
      subst hv
      exact zw_iret (st := []) dX10_about_30 rfl (xRef h h_26 (by (repeat' split) <;> omega))
  refine zw_aload_n 1 rfl dX10_about_0 rfl ?_
  refine zw_aload_n 2 rfl dX10_about_1 rfl ?_
  refine zw_iload_n 3 rfl dX10_about_2 rfl ?_
  refine zw_cVi1 6 rfl dX10_about_3 kX10_about_145 (Nat.le_of_ble_eq_true rfl) (by first | assumption | exact zx_o0 | exact zx_o _ _ _ rfl) (c_told h.p hof) ?_
  refine zw_if_eqB 22 9 rfl dX10_about_6 (by decide) (fun h_6 => ?_) (fun h_6 => ?_)
  · refine zw_iconst 23 rfl dX10_about_22 ?_
    exact J _ (by simp only [if_neg h_6])
  · refine zw_iload_n 10 rfl dX10_about_9 rfl ?_
    refine zw_iconst 11 rfl dX10_about_10 ?_
    refine zw_iconst 12 rfl dX10_about_11 ?_
    refine zw_cSi3 15 rfl dX10_about_12 kX10_about_101 (Nat.le_of_ble_eq_true rfl) (c_within (by omega) (by omega) (by omega)) ?_
    refine zw_if_eqB 22 18 rfl dX10_about_15 (by decide) (fun h_15 => ?_) (fun h_15 => ?_)
    · refine zw_iconst 23 rfl dX10_about_22 ?_
      exact J _ (by simp only [if_pos h_6, if_neg h_15])
    · refine zw_iconst 19 rfl dX10_about_18 ?_
      refine zw_goto 23 dX10_about_19 (by decide) ?_
      exact J _ (by simp only [if_pos h_6, if_pos h_15])
/-! ===== undo ===== -/
theorem c_takeLatest {G : zG} {B : Nat} {σ τ : zSt} (h2 : 0 ≤ σ (B + 6) 2 ∧ σ (B + 6) 2 ≤ 9) (h3 : 1 ≤ σ (B + 6) 3 ∧ σ (B + 6) 3 ≤ 10) : zC G M_X0_takeLatest [.ref (B + 6)] (zxS B, σ, τ) (zR (some (vi (zprv (σ (B + 6) 2)))) (zxS B, zu (zu σ (B + 6) 2 (zprv (σ (B + 6) 2))) (B + 6) 3 (σ (B + 6) 3 - 1), τ)) := by
  have hz := zprv_r h2
  refine zC_of 0 rfl (Nat.le_of_ble_eq_true rfl) ?_
  refine zw_aload_n 1 rfl dX0_takeLatest_0 rfl ?_
  refine zw_aload_n 2 rfl dX0_takeLatest_1 rfl ?_
  refine zw_geti 5 rfl dX0_takeLatest_2 fl_X0_22 (by first | assumption | exact zx_o0 | exact zx_o _ _ _ rfl) ?_
  refine zw_if_le 17 8 rfl dX0_takeLatest_5 (by decide) (by omega) (fun h_5 => ?_) (fun h_5 => ?_)
  · refine zw_bipush 19 rfl dX0_takeLatest_17 rfl ?_
    refine zw_puti 22 rfl dX0_takeLatest_19 fp_X0_22 (by first | assumption | exact zx_o0 | exact zx_o _ _ _ rfl) ?_
    first | (rw [show (9 : Int) = zprv (σ (B + 6) 2) by unfold zprv; rw [if_neg (by omega)]]) | (rw [show σ (B + 6) 2 - 1 = zprv (σ (B + 6) 2) by unfold zprv; rw [if_pos (by omega)]])
    refine zw_aload_n 23 rfl dX0_takeLatest_22 rfl ?_
    refine zw_iconst 24 rfl dX0_takeLatest_23 ?_
    refine zw_aload_n 25 rfl dX0_takeLatest_24 rfl ?_
    refine zw_geti 28 rfl dX0_takeLatest_25 fl_X0_30 (by first | assumption | exact zx_o0 | exact zx_o _ _ _ rfl) ?_
    refine zw_iconst 29 rfl dX0_takeLatest_28 ?_
    refine zw_isub 30 rfl dX0_takeLatest_29 ?_
    rw [zu_k _ _ (by omega)]
    refine zw_mmax 33 rfl dX0_takeLatest_30 kmX0_39 ⟨Nat.le_of_ble_eq_true rfl, Nat.le_of_ble_eq_true rfl⟩ (by omega) (by omega) ?_
    have e9 : (if (0 : Int) < σ (B + 6) 3 - 1 then σ (B + 6) 3 - 1 else 0) = σ (B + 6) 3 - 1 := by split <;> omega
    refine zw_puti 36 rfl dX0_takeLatest_33 fp_X0_30 (by first | assumption | exact zx_o0 | exact zx_o _ _ _ rfl) ?_
    rw [e9]
    refine zw_aload_n 37 rfl dX0_takeLatest_36 rfl ?_
    refine zw_geti 40 rfl dX0_takeLatest_37 fl_X0_22 (by first | assumption | exact zx_o0 | exact zx_o _ _ _ rfl) ?_
    rw [zu_k _ _ (by omega), zu_eq]
    exact zw_iretR dX0_takeLatest_40 rfl rfl rfl
  · refine zw_aload_n 9 rfl dX0_takeLatest_8 rfl ?_
    refine zw_geti 12 rfl dX0_takeLatest_9 fl_X0_22 (by first | assumption | exact zx_o0 | exact zx_o _ _ _ rfl) ?_
    refine zw_iconst 13 rfl dX0_takeLatest_12 ?_
    refine zw_isub 14 rfl dX0_takeLatest_13 ?_
    refine zw_goto 19 dX0_takeLatest_14 (by decide) ?_
    refine zw_puti 22 rfl dX0_takeLatest_19 fp_X0_22 (by first | assumption | exact zx_o0 | exact zx_o _ _ _ rfl) ?_
    first | (rw [show (9 : Int) = zprv (σ (B + 6) 2) by unfold zprv; rw [if_neg (by omega)]]) | (rw [show σ (B + 6) 2 - 1 = zprv (σ (B + 6) 2) by unfold zprv; rw [if_pos (by omega)]])
    refine zw_aload_n 23 rfl dX0_takeLatest_22 rfl ?_
    refine zw_iconst 24 rfl dX0_takeLatest_23 ?_
    refine zw_aload_n 25 rfl dX0_takeLatest_24 rfl ?_
    refine zw_geti 28 rfl dX0_takeLatest_25 fl_X0_30 (by first | assumption | exact zx_o0 | exact zx_o _ _ _ rfl) ?_
    refine zw_iconst 29 rfl dX0_takeLatest_28 ?_
    refine zw_isub 30 rfl dX0_takeLatest_29 ?_
    rw [zu_k _ _ (by omega)]
    refine zw_mmax 33 rfl dX0_takeLatest_30 kmX0_39 ⟨Nat.le_of_ble_eq_true rfl, Nat.le_of_ble_eq_true rfl⟩ (by omega) (by omega) ?_
    have e9 : (if (0 : Int) < σ (B + 6) 3 - 1 then σ (B + 6) 3 - 1 else 0) = σ (B + 6) 3 - 1 := by split <;> omega
    refine zw_puti 36 rfl dX0_takeLatest_33 fp_X0_30 (by first | assumption | exact zx_o0 | exact zx_o _ _ _ rfl) ?_
    rw [e9]
    refine zw_aload_n 37 rfl dX0_takeLatest_36 rfl ?_
    refine zw_geti 40 rfl dX0_takeLatest_37 fl_X0_22 (by first | assumption | exact zx_o0 | exact zx_o _ _ _ rfl) ?_
    rw [zu_k _ _ (by omega), zu_eq]
    exact zw_iretR dX0_takeLatest_40 rfl rfl rfl
theorem xrUndo {B k : Nat} {σ : zSt} {P S : Nat → zPc} {r : List (Nat → zPc)} {p : Nat} (hP : xrP B σ P) (hk : k < 10) (hp : p < 6) (h3 : ∀ i, i ≠ p → P i = S i) (h4 : xrPic σ (zha B k) (S p)) : xrP B (zbec σ (zpa B p) (zpa B p + 1) (zha B k) (zha B k + 1)) S := by
  intro i hi
  by_cases e : i = p
  · subst e; exact h4.bec
  · rw [← h3 i e]
    exact (hP i hi).c (zbec_o _ (by simp only [zpa]; omega) (by simp only [zpa]; omega)) (zbec_o _ (by simp only [zpa]; omega) (by simp only [zpa]; omega))
theorem X_undo {G : zG} {B : Nat} {σ τ : zSt} {A : zA} (h : zxR B σ τ A) : zC G M_X10_undo [.ref B] (zxS B, σ, τ) (xQ B (sp_undo A)) := by
  obtain ⟨P, Hs, T, E, N, Gr, I⟩ := A
  have hH : xrH B σ P Hs := h.2.1
  have hP : xrP B σ P := h.1
  have hb := hH.2.2.1
  have hmn := hH.2.1
  refine zC_of 2 rfl (Nat.le_of_ble_eq_true rfl) ?_
  cases Hs with
  | nil =>
    simp only [List.length_nil] at hmn
    refine zw_aload_n 1 rfl dX10_undo_0 rfl ?_
    refine zw_aload_n 2 rfl dX10_undo_1 rfl ?_
    refine zw_getr 5 rfl dX10_undo_2 fl_X10_26 (by first | assumption | exact zx_o0 | exact zx_o _ _ _ rfl) (by first | assumption | exact zx_f0 _ _ rfl | exact zx_f _ _ _ rfl) ?_
    refine zw_geti 8 rfl dX10_undo_5 fl_X10_144 (by first | assumption | exact zx_o0 | exact zx_o _ _ _ rfl) ?_
    rw [hmn]
    refine zw_if_le 15 11 rfl dX10_undo_8 (by decide) (by omega) (fun h_8 => ?_) (fun h_8 => ?_)
    · refine zw_iconst 16 rfl dX10_undo_15 ?_
      refine zw_cVi1 19 rfl dX10_undo_16 kX10_undo_105 (Nat.le_of_ble_eq_true rfl) (by first | assumption | exact zx_o0 | exact zx_o _ _ _ rfl) (c_refused (by omega)) ?_
      refine zw_if_eqB 24 22 rfl dX10_undo_19 (by decide) (fun h_19 => ?_) (fun h_19 => ?_)
      · exact absurd h_19 (by decide)
      · refine zw_iconst 23 rfl dX10_undo_22 ?_
        refine zw_iret (st := []) dX10_undo_23 rfl ⟨rfl, _, _, rfl, ?_⟩
        exact h.set xScr.z rfl (zu_eq _ _ _ _) (by omega) (by omega)
    · omega
  | cons Q r =>
    simp only [List.length_cons] at hmn hb
    have hn2 := hH.1
    have hq0 := hH.2.2.2
    obtain ⟨⟨p, p1, p2, p3, p4⟩, p5⟩ := hq0
    have hz := zprv_r hn2
    obtain ⟨k, hk⟩ : ∃ k : Nat, zprv (σ (B + 6) 2) = k := ⟨(zprv (σ (B + 6) 2)).toNat, by omega⟩
    rw [hk, Int.toNat_natCast] at p2 p4
    have hk10 : k < 10 := by omega
    generalize hσ3 : zu (zu (zu σ B 17 0) (B + 6) 2 (k : Int)) (B + 6) 3 (r.length : Int) = σ3
    have o3 : ∀ b, b ≠ B → b ≠ B + 6 → σ3 b = σ b := fun b h1 h2 => by rw [← hσ3, zu_row _ _ h2, zu_row _ _ h2, zu_row _ _ h1]
    have m2 : σ3 (B + 6) 2 = k ∧ σ3 (B + 6) 3 = r.length := by rw [← hσ3]; simp [zu]
    have b17 : ∀ j, σ3 B j = zu σ B 17 0 B j := fun j => by rw [← hσ3, zu_row _ _ (by omega), zu_row _ _ (by omega)]
    have hP3 : xrP B σ3 P := hP.c (fun b b1 b2 => o3 b (by omega) (by omega))
    have p43 : xrPic σ3 (zha B k) (Q p) := p4.c (o3 _ (by simp only [zha]; omega) (by simp only [zha]; omega)) (o3 _ (by simp only [zha]; omega) (by simp only [zha]; omega))
    have p83 : σ3 (B + 8) k = p := by rw [o3 _ (by omega) (by omega)]; exact p2
    have fin := xrUndo (r := r) hP3 hk10 p1 p3 p43
    have of : ∀ b, b ≠ zpa B p → b ≠ zpa B p + 1 → zbec σ3 (zpa B p) (zpa B p + 1) (zha B k) (zha B k + 1) b = σ3 b := fun b h1 h2 => zbec_o _ h1 h2
    have hend : zxR B (zbec σ3 (zpa B p) (zpa B p + 1) (zha B k) (zha B k + 1)) τ (aSet (Q, r, T, E, N, Gr, I) 0) := by
      obtain ⟨a1, a2, a3, a4, a5, a6, a7⟩ := h
      have of2 : ∀ b, B < b → b < B + 74 → b ≠ B + 6 → zbec σ3 (zpa B p) (zpa B p + 1) (zha B k) (zha B k + 1) b = σ b := fun b h1 h2 h3 => by rw [of b (by simp only [zpa]; omega) (by simp only [zpa]; omega), o3 b (by omega) h3]
      have ofB : ∀ j, zbec σ3 (zpa B p) (zpa B p + 1) (zha B k) (zha B k + 1) B j = zu σ B 17 0 B j := fun j => by rw [of B (by simp only [zpa]; omega) (by simp only [zpa]; omega), b17]
      refine ⟨fin, ⟨?_, ?_, ?_, ?_⟩, a3.c (by rw [of2 _ (by omega) (by omega) (by omega)]) (of2 _ (by omega) (by omega) (by omega)), ⟨by rw [ofB, zu_eq]; rfl, ?_, by rw [ofB, zu_k _ _ (by omega)]; exact a4.2.2.1, by show -2147483648 ≤ (0 : Int) ∧ (0 : Int) ≤ 2147483647; omega⟩, a5.c (fun b h1 h2 => of2 b (by omega) (by omega) (by omega)), a6.c (by rw [of2 _ (by omega) (by omega) (by omega)]) (by rw [of2 _ (by omega) (by omega) (by omega)]) (fun b h1 h2 => of2 b (by omega) (by omega) (by omega)) rfl, ?_⟩
      · rw [of _ (by simp only [zpa]; omega) (by simp only [zpa]; omega), m2.1]; omega
      · rw [of _ (by simp only [zpa]; omega) (by simp only [zpa]; omega), m2.2]; rfl
      · show r.length ≤ 10; omega
      · rw [of (B + 6) (by simp only [zpa]; omega) (by simp only [zpa]; omega), m2.1]
        rw [hk] at p5
        exact p5.c (by omega) (fun b b1 b2 => of2 b (by omega) (by omega) (by omega))
      · show (-1 : Int) = if (0 : Int) = 4 then _ else -1
        rw [if_neg (by omega)]
      · unfold xrI at *
        rw [ofB, zu_k _ _ (by omega), of2 (B + 73) (by omega) (by omega) (by omega)]
        exact a7
    have e2 : zu σ B 17 0 (B + 6) = σ (B + 6) := zu_row _ _ (by omega)
    have hp5 : (0 : Int) ≤ (p : Int) ∧ (p : Int) ≤ 5 := ⟨by omega, by omega⟩
    refine zw_aload_n 1 rfl dX10_undo_0 rfl ?_
    refine zw_aload_n 2 rfl dX10_undo_1 rfl ?_
    refine zw_getr 5 rfl dX10_undo_2 fl_X10_26 (by first | assumption | exact zx_o0 | exact zx_o _ _ _ rfl) (by first | assumption | exact zx_f0 _ _ rfl | exact zx_f _ _ _ rfl) ?_
    refine zw_geti 8 rfl dX10_undo_5 fl_X10_144 (by first | assumption | exact zx_o0 | exact zx_o _ _ _ rfl) ?_
    rw [hmn]
    refine zw_if_le 15 11 rfl dX10_undo_8 (by decide) (by omega) (fun h_8 => ?_) (fun h_8 => ?_)
    · omega
    · refine zw_iconst 12 rfl dX10_undo_11 ?_
      refine zw_goto 16 dX10_undo_12 (by decide) ?_
      refine zw_cVi1 19 rfl dX10_undo_16 kX10_undo_105 (Nat.le_of_ble_eq_true rfl) (by first | assumption | exact zx_o0 | exact zx_o _ _ _ rfl) (c_refused (by omega)) ?_
      refine zw_if_eqB 24 22 rfl dX10_undo_19 (by decide) (fun h_19 => ?_) (fun h_19 => ?_)
      · refine zw_aload_n 25 rfl dX10_undo_24 rfl ?_
        refine zw_getr 28 rfl dX10_undo_25 fl_X10_26 (by first | assumption | exact zx_o0 | exact zx_o _ _ _ rfl) (by first | assumption | exact zx_f0 _ _ rfl | exact zx_f _ _ _ rfl) ?_
        refine zw_cVi0 31 rfl dX10_undo_28 kX10_undo_374 (Nat.le_of_ble_eq_true rfl) (by first | assumption | exact zx_o0 | exact zx_o _ _ _ rfl) (c_takeLatest (by rw [e2]; exact hn2) (by rw [e2]; omega)) ?_
        rw [e2, hk, hmn, show ((r.length + 1 : Nat) : Int) - 1 = (r.length : Int) by omega, hσ3]
        refine zw_istore_n 32 rfl dX10_undo_31 (Nat.le_of_ble_eq_true rfl) rfl ?_
        refine zw_aload_n 33 rfl dX10_undo_32 rfl ?_
        refine zw_getr 36 rfl dX10_undo_33 fl_X10_26 (by first | assumption | exact zx_o0 | exact zx_o _ _ _ rfl) (by first | assumption | exact zx_f0 _ _ rfl | exact zx_f _ _ _ rfl) ?_
        refine zw_getr 39 rfl dX10_undo_36 fl_X10_377 (by first | assumption | exact zx_o0 | exact zx_o _ _ _ rfl) (by first | assumption | exact zx_f0 _ _ rfl | exact zx_f _ _ _ rfl) ?_
        refine zw_iload_n 40 rfl dX10_undo_39 rfl ?_
        refine zw_iald 41 rfl dX10_undo_40 (by first | assumption | exact zx_o0 | exact zx_o _ _ _ rfl) (by omega) (by omega) ?_
        rw [Int.toNat_natCast, p83]
        refine zw_istore_n 42 rfl dX10_undo_41 (Nat.le_of_ble_eq_true rfl) rfl ?_
        refine zw_iload_n 43 rfl dX10_undo_42 rfl ?_
        refine zw_cSi1 46 rfl dX10_undo_43 kX10_undo_191 (Nat.le_of_ble_eq_true rfl) (c_isPlace (by omega)) ?_
        refine zw_if_eqB 67 49 rfl dX10_undo_46 (by decide) (fun h_46 => ?_) (fun h_46 => ?_)
        · exact absurd hp5 h_46
        · refine zw_aload_n 50 rfl dX10_undo_49 rfl ?_
          refine zw_getr 53 rfl dX10_undo_50 fl_X10_11 (by first | assumption | exact zx_o0 | exact zx_o _ _ _ rfl) (by first | assumption | exact zx_f0 _ _ rfl | exact zx_f _ _ _ rfl) ?_
          refine zw_iload_n 54 rfl dX10_undo_53 rfl ?_
          refine zw_aald 55 rfl dX10_undo_54 (by first | assumption | exact zx_o0 | exact zx_o _ _ _ rfl) (by omega) (by omega) (by rw [Int.toNat_natCast]; exact zx_p6r p1) ?_
          refine zw_aload_n 56 rfl dX10_undo_55 rfl ?_
          refine zw_getr 59 rfl dX10_undo_56 fl_X10_26 (by first | assumption | exact zx_o0 | exact zx_o _ _ _ rfl) (by first | assumption | exact zx_f0 _ _ rfl | exact zx_f _ _ _ rfl) ?_
          refine zw_getr 62 rfl dX10_undo_59 fl_X10_380 (by first | assumption | exact zx_o0 | exact zx_o _ _ _ rfl) (by first | assumption | exact zx_f0 _ _ rfl | exact zx_f _ _ _ rfl) ?_
          refine zw_iload_n 63 rfl dX10_undo_62 rfl ?_
          refine zw_aald 64 rfl dX10_undo_63 (by first | assumption | exact zx_o0 | exact zx_o _ _ _ rfl) (by omega) (by omega) (zx_h10r hk10) ?_
          refine zw_cVv1 67 rfl dX10_undo_64 kX10_undo_137 (Nat.le_of_ble_eq_true rfl) (zx_p6 p1).1 (c_become (zx_p6 p1) (zx_h10 hk10) (by simp only [zpa, zha]; omega) (by simp only [zpa, zha]; omega)) ?_
          refine zw_aload_n 68 rfl dX10_undo_67 rfl ?_
          refine zw_getr 71 rfl dX10_undo_68 fl_X10_26 (by first | assumption | exact zx_o0 | exact zx_o _ _ _ rfl) (by first | assumption | exact zx_f0 _ _ rfl | exact zx_f _ _ _ rfl) ?_
          refine zw_geti 74 rfl dX10_undo_71 fl_X10_144 (by first | assumption | exact zx_o0 | exact zx_o _ _ _ rfl) ?_
          refine zw_iret (st := []) dX10_undo_74 rfl ⟨?_, _, _, rfl, hend⟩
          rw [zbec_o _ (by simp only [zpa]; omega) (by simp only [zpa]; omega), m2.2]
          rfl
      · exact absurd rfl h_19
