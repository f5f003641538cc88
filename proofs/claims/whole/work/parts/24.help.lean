/-! ===== the class's helpers ===== -/
theorem c_told {G : zG} {B : Nat} {σ τ : zSt} {P : Nat → zPc} {p : Int} (h : xrP B σ P) (hp : -2147483648 ≤ p ∧ p ≤ 2147483647) : zC G M_X10_told [.ref B, vi p] (zxS B, σ, τ) (zR (some (vi (zb (aPl p ∧ 0 < (P p.toNat).1)))) (zxS B, σ, τ)) := by
  refine zC_of 0 rfl (Nat.le_of_ble_eq_true rfl) ?_
  refine zw_iload_n 1 rfl dX10_told_0 rfl ?_
  refine zw_cSi1 4 rfl dX10_told_1 kX10_told_191 (Nat.le_of_ble_eq_true rfl) (c_isPlace hp) ?_
  refine zw_if_eqB 23 7 rfl dX10_told_4 (by decide) (fun h_4 => ?_) (fun h_4 => ?_)
  · refine zw_iconst 24 rfl dX10_told_23 ?_
    exact zw_zretR dX10_told_24 rfl (by omega) (by first | exact zb_t ⟨h_4, by rw [← (h p.toNat (by omega)).2.1]; exact h_16⟩ | exact zb_f (fun hh => h_4 hh.1) | exact zb_f (fun hh => h_16 (by rw [(h p.toNat (by omega)).2.1]; exact hh.2))) rfl
  · refine zw_aload_n 8 rfl dX10_told_7 rfl ?_
    refine zw_getr 11 rfl dX10_told_8 fl_X10_11 (by first | assumption | exact zx_o0 | exact zx_o _ _ _ rfl) (by first | assumption | exact zx_f0 _ _ rfl | exact zx_f _ _ _ rfl) ?_
    refine zw_iload_n 12 rfl dX10_told_11 rfl ?_
    refine zw_aald 13 rfl dX10_told_12 (by first | assumption | exact zx_o0 | exact zx_o _ _ _ rfl) (by omega) (by omega) (by first | assumption | exact zx_p6r (by omega)) ?_
    refine zw_cVi0 16 rfl dX10_told_13 kX10_told_404 (Nat.le_of_ble_eq_true rfl) (zx_p6 (by omega)).1 (c_isTold (zx_p6 (by omega)) (h p.toNat (by omega)).1) ?_
    refine zw_if_eqB 23 19 rfl dX10_told_16 (by decide) (fun h_16 => ?_) (fun h_16 => ?_)
    · refine zw_iconst 24 rfl dX10_told_23 ?_
      exact zw_zretR dX10_told_24 rfl (by omega) (by first | exact zb_t ⟨h_4, by rw [← (h p.toNat (by omega)).2.1]; exact h_16⟩ | exact zb_f (fun hh => h_4 hh.1) | exact zb_f (fun hh => h_16 (by rw [(h p.toNat (by omega)).2.1]; exact hh.2))) rfl
    · refine zw_iconst 20 rfl dX10_told_19 ?_
      refine zw_goto 24 dX10_told_20 (by decide) ?_
      exact zw_zretR dX10_told_24 rfl (by omega) (by first | exact zb_t ⟨h_4, by rw [← (h p.toNat (by omega)).2.1]; exact h_16⟩ | exact zb_f (fun hh => h_4 hh.1) | exact zb_f (fun hh => h_16 (by rw [(h p.toNat (by omega)).2.1]; exact hh.2))) rfl
theorem c_hasDot {G : zG} {B : Nat} {σ τ : zSt} {P : Nat → zPc} {p x y : Int} (h : xrP B σ P) (hp : -2147483648 ≤ p ∧ p ≤ 2147483647) (hx : -2147483648 ≤ x ∧ x ≤ 2147483647) (hy : -2147483648 ≤ y ∧ y ≤ 2147483647) : zC G M_X10_hasDot [.ref B, vi p, vi x, vi y] (zxS B, σ, τ) (zR (some (vi (zb ((aPl p ∧ 0 < (P p.toNat).1) ∧ (0 ≤ x ∧ x < (P p.toNat).1) ∧ 0 ≤ y ∧ y < (P p.toNat).2.1)))) (zxS B, σ, τ)) := by
  refine zC_of 0 rfl (Nat.le_of_ble_eq_true rfl) ?_
  refine zw_aload_n 1 rfl dX10_hasDot_0 rfl ?_
  refine zw_iload_n 2 rfl dX10_hasDot_1 rfl ?_
  refine zw_cVi1 5 rfl dX10_hasDot_2 kX10_hasDot_145 (Nat.le_of_ble_eq_true rfl) (by first | assumption | exact zx_o0 | exact zx_o _ _ _ rfl) (c_told h hp) ?_
  refine zw_if_eqB 26 8 rfl dX10_hasDot_5 (by decide) (fun h_5 => ?_) (fun h_5 => ?_)
  · refine zw_iconst 27 rfl dX10_hasDot_26 ?_
    exact zw_zretR dX10_hasDot_27 rfl (by omega) (by first | exact zb_t ⟨h_5, by rw [← hq.1, ← hq2]; exact h_19⟩ | exact zb_f (fun hh => h_5 hh.1) | exact zb_f (fun hh => h_19 (by unfold zHas; rw [hq.1, hq2]; exact hh.2))) rfl
  · have hq := (h p.toNat (by omega)).2
    have hq2 := (hq.2 h_5.2).1
    refine zw_aload_n 9 rfl dX10_hasDot_8 rfl ?_
    refine zw_getr 12 rfl dX10_hasDot_9 fl_X10_11 (by first | assumption | exact zx_o0 | exact zx_o _ _ _ rfl) (by first | assumption | exact zx_f0 _ _ rfl | exact zx_f _ _ _ rfl) ?_
    refine zw_iload_n 13 rfl dX10_hasDot_12 rfl ?_
    refine zw_aald 14 rfl dX10_hasDot_13 (by first | assumption | exact zx_o0 | exact zx_o _ _ _ rfl) (by omega) (by omega) (by first | assumption | exact zx_p6r (by omega)) ?_
    refine zw_iload_n 15 rfl dX10_hasDot_14 rfl ?_
    refine zw_iload_n 16 rfl dX10_hasDot_15 rfl ?_
    refine zw_cVi2 19 rfl dX10_hasDot_16 kX10_hasDot_407 (Nat.le_of_ble_eq_true rfl) (zx_p6 (by omega)).1 (c_contains (zx_p6 (by omega)) (h p.toNat (by omega)).1 hx hy) ?_
    refine zw_if_eqB 26 22 rfl dX10_hasDot_19 (by decide) (fun h_19 => ?_) (fun h_19 => ?_)
    · refine zw_iconst 27 rfl dX10_hasDot_26 ?_
      exact zw_zretR dX10_hasDot_27 rfl (by omega) (by first | exact zb_t ⟨h_5, by rw [← hq.1, ← hq2]; exact h_19⟩ | exact zb_f (fun hh => h_5 hh.1) | exact zb_f (fun hh => h_19 (by unfold zHas; rw [hq.1, hq2]; exact hh.2))) rfl
    · refine zw_iconst 23 rfl dX10_hasDot_22 ?_
      refine zw_goto 27 dX10_hasDot_23 (by decide) ?_
      exact zw_zretR dX10_hasDot_27 rfl (by omega) (by first | exact zb_t ⟨h_5, by rw [← hq.1, ← hq2]; exact h_19⟩ | exact zb_f (fun hh => h_5 hh.1) | exact zb_f (fun hh => h_19 (by unfold zHas; rw [hq.1, hq2]; exact hh.2))) rfl
theorem c_alike {G : zG} {B : Nat} {σ τ : zSt} {P : Nat → zPc} {p q : Int} (h : xrP B σ P) (hp : -2147483648 ≤ p ∧ p ≤ 2147483647) (hq : -2147483648 ≤ q ∧ q ≤ 2147483647) : zC G M_X10_alike [.ref B, vi p, vi q] (zxS B, σ, τ) (zR (some (vi (zb ((aPl p ∧ 0 < (P p.toNat).1) ∧ (aPl q ∧ 0 < (P q.toNat).1) ∧ (P p.toNat).1 = (P q.toNat).1 ∧ (P p.toNat).2.1 = (P q.toNat).2.1)))) (zxS B, σ, τ)) := by
  refine zC_of 0 rfl (Nat.le_of_ble_eq_true rfl) ?_
  refine zw_aload_n 1 rfl dX10_alike_0 rfl ?_
  refine zw_iload_n 2 rfl dX10_alike_1 rfl ?_
  refine zw_cVi1 5 rfl dX10_alike_2 kX10_alike_145 (Nat.le_of_ble_eq_true rfl) (by first | assumption | exact zx_o0 | exact zx_o _ _ _ rfl) (c_told h hp) ?_
  refine zw_if_eqB 62 8 rfl dX10_alike_5 (by decide) (fun h_5 => ?_) (fun h_5 => ?_)
  · refine zw_iconst 63 rfl dX10_alike_62 ?_
    exact zw_zretR dX10_alike_63 rfl (by omega) (by first | exact zb_t ⟨h_5, h_13, by rw [← hq1.1, ← hr1.1]; exact h_34, by rw [← hq2, ← hr2]; exact h_55⟩ | exact zb_f (fun hh => h_5 hh.1) | exact zb_f (fun hh => h_13 hh.2.1) | exact zb_f (fun hh => h_34 (by rw [hq1.1, hr1.1]; exact hh.2.2.1)) | exact zb_f (fun hh => h_55 (by rw [hq2, hr2]; exact hh.2.2.2))) rfl
  · refine zw_aload_n 9 rfl dX10_alike_8 rfl ?_
    refine zw_iload_n 10 rfl dX10_alike_9 rfl ?_
    refine zw_cVi1 13 rfl dX10_alike_10 kX10_alike_145 (Nat.le_of_ble_eq_true rfl) (by first | assumption | exact zx_o0 | exact zx_o _ _ _ rfl) (c_told h hq) ?_
    refine zw_if_eqB 62 16 rfl dX10_alike_13 (by decide) (fun h_13 => ?_) (fun h_13 => ?_)
    · refine zw_iconst 63 rfl dX10_alike_62 ?_
      exact zw_zretR dX10_alike_63 rfl (by omega) (by first | exact zb_t ⟨h_5, h_13, by rw [← hq1.1, ← hr1.1]; exact h_34, by rw [← hq2, ← hr2]; exact h_55⟩ | exact zb_f (fun hh => h_5 hh.1) | exact zb_f (fun hh => h_13 hh.2.1) | exact zb_f (fun hh => h_34 (by rw [hq1.1, hr1.1]; exact hh.2.2.1)) | exact zb_f (fun hh => h_55 (by rw [hq2, hr2]; exact hh.2.2.2))) rfl
    · have hq1 := (h p.toNat (by omega)).2
      have hq2 := (hq1.2 h_5.2).1
      have hr1 := (h q.toNat (by omega)).2
      have hr2 := (hr1.2 h_13.2).1
      have b1 := (h p.toNat (by omega)).1
      have b2 := (h q.toNat (by omega)).1
      unfold zPW at b1 b2
      refine zw_aload_n 17 rfl dX10_alike_16 rfl ?_
      refine zw_getr 20 rfl dX10_alike_17 fl_X10_11 (by first | assumption | exact zx_o0 | exact zx_o _ _ _ rfl) (by first | assumption | exact zx_f0 _ _ rfl | exact zx_f _ _ _ rfl) ?_
      refine zw_iload_n 21 rfl dX10_alike_20 rfl ?_
      refine zw_aald 22 rfl dX10_alike_21 (by first | assumption | exact zx_o0 | exact zx_o _ _ _ rfl) (by omega) (by omega) (by first | assumption | exact zx_p6r (by omega)) ?_
      refine zw_geti 25 rfl dX10_alike_22 fl_X10_148 (zx_p6 (by omega)).1 ?_
      refine zw_aload_n 26 rfl dX10_alike_25 rfl ?_
      refine zw_getr 29 rfl dX10_alike_26 fl_X10_11 (by first | assumption | exact zx_o0 | exact zx_o _ _ _ rfl) (by first | assumption | exact zx_f0 _ _ rfl | exact zx_f _ _ _ rfl) ?_
      refine zw_iload_n 30 rfl dX10_alike_29 rfl ?_
      refine zw_aald 31 rfl dX10_alike_30 (by first | assumption | exact zx_o0 | exact zx_o _ _ _ rfl) (by omega) (by omega) (by first | assumption | exact zx_p6r (by omega)) ?_
      refine zw_geti 34 rfl dX10_alike_31 fl_X10_148 (zx_p6 (by omega)).1 ?_
      refine zw_icmp_ne 62 37 rfl dX10_alike_34 (by decide) (by omega) (by omega) (fun h_34 => ?_) (fun h_34 => ?_)
      · refine zw_iconst 63 rfl dX10_alike_62 ?_
        exact zw_zretR dX10_alike_63 rfl (by omega) (by first | exact zb_t ⟨h_5, h_13, by rw [← hq1.1, ← hr1.1]; exact h_34, by rw [← hq2, ← hr2]; exact h_55⟩ | exact zb_f (fun hh => h_5 hh.1) | exact zb_f (fun hh => h_13 hh.2.1) | exact zb_f (fun hh => h_34 (by rw [hq1.1, hr1.1]; exact hh.2.2.1)) | exact zb_f (fun hh => h_55 (by rw [hq2, hr2]; exact hh.2.2.2))) rfl
      · refine zw_aload_n 38 rfl dX10_alike_37 rfl ?_
        refine zw_getr 41 rfl dX10_alike_38 fl_X10_11 (by first | assumption | exact zx_o0 | exact zx_o _ _ _ rfl) (by first | assumption | exact zx_f0 _ _ rfl | exact zx_f _ _ _ rfl) ?_
        refine zw_iload_n 42 rfl dX10_alike_41 rfl ?_
        refine zw_aald 43 rfl dX10_alike_42 (by first | assumption | exact zx_o0 | exact zx_o _ _ _ rfl) (by omega) (by omega) (by first | assumption | exact zx_p6r (by omega)) ?_
        refine zw_geti 46 rfl dX10_alike_43 fl_X10_151 (zx_p6 (by omega)).1 ?_
        refine zw_aload_n 47 rfl dX10_alike_46 rfl ?_
        refine zw_getr 50 rfl dX10_alike_47 fl_X10_11 (by first | assumption | exact zx_o0 | exact zx_o _ _ _ rfl) (by first | assumption | exact zx_f0 _ _ rfl | exact zx_f _ _ _ rfl) ?_
        refine zw_iload_n 51 rfl dX10_alike_50 rfl ?_
        refine zw_aald 52 rfl dX10_alike_51 (by first | assumption | exact zx_o0 | exact zx_o _ _ _ rfl) (by omega) (by omega) (by first | assumption | exact zx_p6r (by omega)) ?_
        refine zw_geti 55 rfl dX10_alike_52 fl_X10_151 (zx_p6 (by omega)).1 ?_
        refine zw_icmp_ne 62 58 rfl dX10_alike_55 (by decide) (by omega) (by omega) (fun h_55 => ?_) (fun h_55 => ?_)
        · refine zw_iconst 63 rfl dX10_alike_62 ?_
          exact zw_zretR dX10_alike_63 rfl (by omega) (by first | exact zb_t ⟨h_5, h_13, by rw [← hq1.1, ← hr1.1]; exact h_34, by rw [← hq2, ← hr2]; exact h_55⟩ | exact zb_f (fun hh => h_5 hh.1) | exact zb_f (fun hh => h_13 hh.2.1) | exact zb_f (fun hh => h_34 (by rw [hq1.1, hr1.1]; exact hh.2.2.1)) | exact zb_f (fun hh => h_55 (by rw [hq2, hr2]; exact hh.2.2.2))) rfl
        · refine zw_iconst 59 rfl dX10_alike_58 ?_
          refine zw_goto 63 dX10_alike_59 (by decide) ?_
          exact zw_zretR dX10_alike_63 rfl (by omega) (by first | exact zb_t ⟨h_5, h_13, by rw [← hq1.1, ← hr1.1]; exact h_34, by rw [← hq2, ← hr2]; exact h_55⟩ | exact zb_f (fun hh => h_5 hh.1) | exact zb_f (fun hh => h_13 hh.2.1) | exact zb_f (fun hh => h_34 (by rw [hq1.1, hr1.1]; exact hh.2.2.1)) | exact zb_f (fun hh => h_55 (by rw [hq2, hr2]; exact hh.2.2.2))) rfl
theorem c_refused {G : zG} {B : Nat} {σ τ : zSt} {v : Int} (hv : -2147483648 ≤ v ∧ v ≤ 2147483647) : zC G M_X10_refused [.ref B, vi v] (zxS B, σ, τ) (zR (some (vi (zb (v ≠ 0)))) (zxS B, zu σ B 17 v, τ)) := by
  refine zC_of 0 rfl (Nat.le_of_ble_eq_true rfl) ?_
  refine zw_aload_n 1 rfl dX10_refused_0 rfl ?_
  refine zw_iload_n 2 rfl dX10_refused_1 rfl ?_
  refine zw_puti 5 rfl dX10_refused_2 fp_X10_128 (by first | assumption | exact zx_o0 | exact zx_o _ _ _ rfl) ?_
  refine zw_iload_n 6 rfl dX10_refused_5 rfl ?_
  refine zw_if_eq 13 9 rfl dX10_refused_6 (by decide) (by omega) (fun h_6 => ?_) (fun h_6 => ?_)
  · refine zw_iconst 14 rfl dX10_refused_13 ?_
    exact zw_zretR dX10_refused_14 rfl (by omega) (by first | exact zb_t h_6 | exact zb_f (fun hh => hh h_6)) rfl
  · refine zw_iconst 10 rfl dX10_refused_9 ?_
    refine zw_goto 14 dX10_refused_10 (by decide) ?_
    exact zw_zretR dX10_refused_14 rfl (by omega) (by first | exact zb_t h_6 | exact zb_f (fun hh => hh h_6)) rfl
/-! ===== how many dots are others ===== -/
theorem c_othersIn {G : zG} {S : zSh} {σ τ : zSt} {a sa b sb : Nat} (hp : zPic S a sa) (hq : zPic S b sb) (hw : zPW σ a) (hd : ∀ j : Nat, (j : Int) < σ a 1 * σ a 2 → (0 ≤ σ sa j ∧ σ sa j ≤ 255) ∧ 0 ≤ σ sb j ∧ σ sb j ≤ 255) : zC G M_X10_othersIn [.ref a, .ref b] (S, σ, τ) (zR (some (vi (zfold (fun d m => m + if σ sa d = σ sb d then 0 else 1) (σ a 1 * σ a 2).toNat 0))) (S, σ, τ)) := by
  have hp0 := hp
  obtain ⟨ha, hs, hsa, hne⟩ := hp
  obtain ⟨hb, hs2, hsb, hne2⟩ := hq
  obtain ⟨⟨w0, w1⟩, w2, w3⟩ := hw
  have hcn := zz_wh ⟨w0, w1⟩ ⟨w2, w3⟩
  refine zC_of 2 rfl (Nat.le_of_ble_eq_true rfl) ?_
  generalize hF : (fun (d : Nat) (m : Int) => m + if σ sa d = σ sb d then (0 : Int) else 1) = F
  have loop : ∀ (n i : Nat), (i : Int) ≤ σ a 1 * σ a 2 → σ a 1 * σ a 2 - i < n → zW G M_X10_othersIn (zR (some (vi (zfold F (σ a 1 * σ a 2).toNat 0))) (S, σ, τ)) 4 [some (.ref a), some (.ref b), some (vi (zfold F i 0)), some (vi i)] [] (S, σ, τ) := by
    intro n
    induction n with
    | zero => intro i h1 h2; omega
    | succ n ih =>
      intro i h1 h2
      have hi : zfold F (i + 1) 0 = zfold F i 0 + if σ sa i = σ sb i then 0 else 1 := by subst hF; rfl
      refine zw_iload_n 5 rfl dX10_othersIn_4 rfl ?_
      refine zw_aload_n 6 rfl dX10_othersIn_5 rfl ?_
      refine zw_cVi0 9 rfl dX10_othersIn_6 kX10_othersIn_212 (Nat.le_of_ble_eq_true rfl) (by first | assumption | exact zx_o0 | exact zx_o _ _ _ rfl) (c_count hp0) ?_
      refine zw_icmp_ge 41 12 rfl dX10_othersIn_9 (by decide) (by omega) (by omega) (fun h_9 => ?_) (fun h_9 => ?_)
      · refine zw_iload_n 42 rfl dX10_othersIn_41 rfl ?_
        exact zw_iretR dX10_othersIn_42 rfl (by rw [show i = (σ a 1 * σ a 2).toNat by omega]) rfl
      · have hdi := hd i (by omega)
        refine zw_iload_n 13 rfl dX10_othersIn_12 rfl ?_
        refine zw_aload_n 14 rfl dX10_othersIn_13 rfl ?_
        refine zw_getr 17 rfl dX10_othersIn_14 fl_X10_198 (by first | assumption | exact zx_o0 | exact zx_o _ _ _ rfl) (by first | assumption | exact zx_f0 _ _ rfl | exact zx_f _ _ _ rfl) ?_
        refine zw_iload_n 18 rfl dX10_othersIn_17 rfl ?_
        refine zw_iald 19 rfl dX10_othersIn_18 (by first | assumption | exact zx_o0 | exact zx_o _ _ _ rfl) (by omega) (by omega) ?_
        refine zw_aload_n 20 rfl dX10_othersIn_19 rfl ?_
        refine zw_getr 23 rfl dX10_othersIn_20 fl_X10_198 (by first | assumption | exact zx_o0 | exact zx_o _ _ _ rfl) (by first | assumption | exact zx_f0 _ _ rfl | exact zx_f _ _ _ rfl) ?_
        refine zw_iload_n 24 rfl dX10_othersIn_23 rfl ?_
        refine zw_iald 25 rfl dX10_othersIn_24 (by first | assumption | exact zx_o0 | exact zx_o _ _ _ rfl) (by omega) (by omega) ?_
        refine zw_icmp_eq 32 28 rfl dX10_othersIn_25 (by decide) (by simp only [Int.toNat_natCast]; omega) (by simp only [Int.toNat_natCast]; omega) (fun h_25 => ?_) (fun h_25 => ?_)
        · refine zw_iconst 33 rfl dX10_othersIn_32 ?_
          refine zw_iadd 34 rfl dX10_othersIn_33 ?_
          refine zw_istore_n 35 rfl dX10_othersIn_34 (Nat.le_of_ble_eq_true rfl) rfl ?_
          refine zw_iinc 38 rfl dX10_othersIn_35 (Nat.le_of_ble_eq_true rfl) rfl rfl ?_
          refine zw_goto 4 dX10_othersIn_38 (by decide) ?_
          have ih := ih (i + 1) (by omega) (by omega)
          simp only [Int.toNat_natCast] at h_25
          simp only [hi, if_neg h_9, if_pos h_25] at ih
          exact ih
        · refine zw_iconst 29 rfl dX10_othersIn_28 ?_
          refine zw_goto 33 dX10_othersIn_29 (by decide) ?_
          refine zw_iadd 34 rfl dX10_othersIn_33 ?_
          refine zw_istore_n 35 rfl dX10_othersIn_34 (Nat.le_of_ble_eq_true rfl) rfl ?_
          refine zw_iinc 38 rfl dX10_othersIn_35 (Nat.le_of_ble_eq_true rfl) rfl rfl ?_
          refine zw_goto 4 dX10_othersIn_38 (by decide) ?_
          have ih := ih (i + 1) (by omega) (by omega)
          simp only [Int.toNat_natCast] at h_25
          simp only [hi, if_neg h_9, if_neg h_25] at ih
          exact ih
  refine zw_iconst 1 rfl dX10_othersIn_0 ?_
  refine zw_istore_n 2 rfl dX10_othersIn_1 (Nat.le_of_ble_eq_true rfl) rfl ?_
  refine zw_iconst 3 rfl dX10_othersIn_2 ?_
  refine zw_istore_n 4 rfl dX10_othersIn_3 (Nat.le_of_ble_eq_true rfl) rfl ?_
  exact loop ((σ a 1 * σ a 2).toNat + 1) 0 (by omega) (by omega)
