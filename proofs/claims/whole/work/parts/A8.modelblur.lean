/-! ===== blurring ===== -/
def mst (y : Int) : Nat := if y = 0 then 741 else if y = 1 then 39 else 1
def mpl (n : Nat) (y : Int) : Nat := if y = 0 then n / 741 else if y = 1 then n / 39 % 19 else n % 39
def mlg (y : Int) : Nat := if y = 0 then 23 else if y = 1 then 19 else 39
theorem m_strideOf {G : zG} {S : zSh} {σ τ : zSt} {y : Int} (hy : 0 ≤ y ∧ y ≤ 2) : zC G M_X11_strideOf [vi y] (S, σ, τ) (zR (some (vi (mst y : Nat))) (S, σ, τ)) := by
  refine zC_of 0 rfl (Nat.le_of_ble_eq_true rfl) ?_
  refine zw_iload_n 1 rfl dX11_strideOf_0 rfl ?_
  refine zw_if_ne 10 4 rfl dX11_strideOf_1 (by decide) (by omega) (fun h_1 => ?_) (fun h_1 => ?_)
  · refine zw_iload_n 11 rfl dX11_strideOf_10 rfl ?_
    refine zw_iconst 12 rfl dX11_strideOf_11 ?_
    refine zw_icmp_ne 20 15 rfl dX11_strideOf_12 (by decide) (by omega) (by omega) (fun h_12 => ?_) (fun h_12 => ?_)
    · refine zw_iconst 21 rfl dX11_strideOf_20 ?_
      exact zw_iretR dX11_strideOf_21 rfl (by unfold mst; first | (rw [if_pos h_1]; done) | (rw [if_neg h_1, if_pos h_12]; done) | (rw [if_neg h_1, if_neg h_12]; done) | (rw [if_pos h_1]; rfl) | (rw [if_neg h_1, if_pos h_12]; rfl) | (rw [if_neg h_1, if_neg h_12]; rfl)) rfl
    · refine zw_bipush 17 rfl dX11_strideOf_15 rfl ?_
      refine zw_goto 21 dX11_strideOf_17 (by decide) ?_
      exact zw_iretR dX11_strideOf_21 rfl (by unfold mst; first | (rw [if_pos h_1]; done) | (rw [if_neg h_1, if_pos h_12]; done) | (rw [if_neg h_1, if_neg h_12]; done) | (rw [if_pos h_1]; rfl) | (rw [if_neg h_1, if_pos h_12]; rfl) | (rw [if_neg h_1, if_neg h_12]; rfl)) rfl
  · refine zw_sipush 7 rfl dX11_strideOf_4 rfl ?_
    refine zw_goto 21 dX11_strideOf_7 (by decide) ?_
    exact zw_iretR dX11_strideOf_21 rfl (by unfold mst; first | (rw [if_pos h_1]; done) | (rw [if_neg h_1, if_pos h_12]; done) | (rw [if_neg h_1, if_neg h_12]; done) | (rw [if_pos h_1]; rfl) | (rw [if_neg h_1, if_pos h_12]; rfl) | (rw [if_neg h_1, if_neg h_12]; rfl)) rfl
theorem m_longOf {G : zG} {S : zSh} {σ τ : zSt} {y : Int} (hy : 0 ≤ y ∧ y ≤ 2) : zC G M_X11_longOf [vi y] (S, σ, τ) (zR (some (vi (mlg y : Nat))) (S, σ, τ)) := by
  refine zC_of 0 rfl (Nat.le_of_ble_eq_true rfl) ?_
  refine zw_iload_n 1 rfl dX11_longOf_0 rfl ?_
  refine zw_if_ne 9 4 rfl dX11_longOf_1 (by decide) (by omega) (fun h_1 => ?_) (fun h_1 => ?_)
  · refine zw_iload_n 10 rfl dX11_longOf_9 rfl ?_
    refine zw_iconst 11 rfl dX11_longOf_10 ?_
    refine zw_icmp_ne 19 14 rfl dX11_longOf_11 (by decide) (by omega) (by omega) (fun h_11 => ?_) (fun h_11 => ?_)
    · refine zw_bipush 21 rfl dX11_longOf_19 rfl ?_
      exact zw_iretR dX11_longOf_21 rfl (by unfold mlg; first | (rw [if_pos h_1]; rfl) | (rw [if_neg h_1, if_pos h_11]; rfl) | (rw [if_neg h_1, if_neg h_11]; rfl) | (rw [if_pos h_1]; done) | (rw [if_neg h_1, if_pos h_11]; done) | (rw [if_neg h_1, if_neg h_11]; done)) rfl
    · refine zw_bipush 16 rfl dX11_longOf_14 rfl ?_
      refine zw_goto 21 dX11_longOf_16 (by decide) ?_
      exact zw_iretR dX11_longOf_21 rfl (by unfold mlg; first | (rw [if_pos h_1]; rfl) | (rw [if_neg h_1, if_pos h_11]; rfl) | (rw [if_neg h_1, if_neg h_11]; rfl) | (rw [if_pos h_1]; done) | (rw [if_neg h_1, if_pos h_11]; done) | (rw [if_neg h_1, if_neg h_11]; done)) rfl
  · refine zw_bipush 6 rfl dX11_longOf_4 rfl ?_
    refine zw_goto 21 dX11_longOf_6 (by decide) ?_
    exact zw_iretR dX11_longOf_21 rfl (by unfold mlg; first | (rw [if_pos h_1]; rfl) | (rw [if_neg h_1, if_pos h_11]; rfl) | (rw [if_neg h_1, if_neg h_11]; rfl) | (rw [if_pos h_1]; done) | (rw [if_neg h_1, if_pos h_11]; done) | (rw [if_neg h_1, if_neg h_11]; done)) rfl
theorem m_placeIn {G : zG} {S : zSh} {σ τ : zSt} {y : Int} {n : Nat} (hn : n < 17043) (hy : 0 ≤ y ∧ y ≤ 2) : zC G M_X11_placeIn [vi (n : Int), vi y] (S, σ, τ) (zR (some (vi (mpl n y : Nat))) (S, σ, τ)) := by
  refine zC_of 0 rfl (Nat.le_of_ble_eq_true rfl) ?_
  refine zw_iload_n 1 rfl dX11_placeIn_0 rfl ?_
  refine zw_if_ne 12 4 rfl dX11_placeIn_1 (by decide) (by omega) (fun h_1 => ?_) (fun h_1 => ?_)
  · refine zw_iload_n 13 rfl dX11_placeIn_12 rfl ?_
    refine zw_iconst 14 rfl dX11_placeIn_13 ?_
    refine zw_icmp_ne 27 17 rfl dX11_placeIn_14 (by decide) (by omega) (by omega) (fun h_14 => ?_) (fun h_14 => ?_)
    · refine zw_iload_n 28 rfl dX11_placeIn_27 rfl ?_
      refine zw_bipush 30 rfl dX11_placeIn_28 rfl ?_
      refine zw_irem 31 rfl dX11_placeIn_30 (by omega) (by omega) ?_
      exact zw_iretR dX11_placeIn_31 rfl (by unfold mpl; first | (rw [if_pos h_1]; omega) | (rw [if_neg h_1, if_pos h_14]; omega) | (rw [if_neg h_1, if_neg h_14]; omega)) rfl
    · refine zw_iload_n 18 rfl dX11_placeIn_17 rfl ?_
      refine zw_bipush 20 rfl dX11_placeIn_18 rfl ?_
      refine zw_idiv 21 rfl dX11_placeIn_20 (by omega) (by omega) ?_
      refine zw_bipush 23 rfl dX11_placeIn_21 rfl ?_
      refine zw_irem 24 rfl dX11_placeIn_23 (by omega) (by omega) ?_
      refine zw_goto 31 dX11_placeIn_24 (by decide) ?_
      exact zw_iretR dX11_placeIn_31 rfl (by unfold mpl; first | (rw [if_pos h_1]; omega) | (rw [if_neg h_1, if_pos h_14]; omega) | (rw [if_neg h_1, if_neg h_14]; omega)) rfl
  · refine zw_iload_n 5 rfl dX11_placeIn_4 rfl ?_
    refine zw_sipush 8 rfl dX11_placeIn_5 rfl ?_
    refine zw_idiv 9 rfl dX11_placeIn_8 (by omega) (by omega) ?_
    refine zw_goto 31 dX11_placeIn_9 (by decide) ?_
    exact zw_iretR dX11_placeIn_31 rfl (by unfold mpl; first | (rw [if_pos h_1]; omega) | (rw [if_neg h_1, if_pos h_14]; omega) | (rw [if_neg h_1, if_neg h_14]; omega)) rfl
def marF (f : Nat → Int) (n : Nat) (y : Int) : Int := 2 * f n + (if 0 < mpl n y then f (n - mst y) else 0) + (if mpl n y + 1 < mlg y then f (n + mst y) else 0)
theorem mpl_r {n : Nat} {y : Int} (hn : n < 17043) (hy : 0 ≤ y ∧ y ≤ 2) : (mpl n y < mlg y ∧ mlg y ≤ 39 ∧ 1 ≤ mst y ∧ mst y ≤ 741) ∧ (0 < mpl n y → mst y ≤ n) ∧ (mpl n y + 1 < mlg y → n + mst y < 17043) := by
  unfold mpl mlg mst
  rcases (show y = 0 ∨ y = 1 ∨ y = 2 by omega) with rfl | rfl | rfl
  · simp only [if_pos]; omega
  · simp only [if_pos, if_neg (show ¬ (1 : Int) = 0 by omega)]; omega
  · simp only [if_neg (show ¬ (2 : Int) = 0 by omega), if_neg (show ¬ (2 : Int) = 1 by omega)]; omega
theorem m_around {G : zG} {S : zSh} {σ τ : zSt} {a n : Nat} {y : Int} (ha : zo S a 13 17043) (hn : n < 17043) (hy : 0 ≤ y ∧ y ≤ 2) : zC G M_X11_around [.ref a, vi (n : Int), vi y] (S, σ, τ) (zR (some (vl (marF (τ a) n y))) (S, σ, τ)) := by
  obtain ⟨r1, r2, r3⟩ := mpl_r hn hy
  refine zC_of 2 rfl (Nat.le_of_ble_eq_true rfl) ?_
  refine zw_iload_n 1 rfl dX11_around_0 rfl ?_
  refine zw_cSi1 4 rfl dX11_around_1 kX11_around_241 (Nat.le_of_ble_eq_true rfl) (m_strideOf hy) ?_
  refine zw_istore_n 5 rfl dX11_around_4 (Nat.le_of_ble_eq_true rfl) rfl ?_
  refine zw_iload_n 6 rfl dX11_around_5 rfl ?_
  refine zw_iload_n 7 rfl dX11_around_6 rfl ?_
  refine zw_cSi2 10 rfl dX11_around_7 kX11_around_244 (Nat.le_of_ble_eq_true rfl) (m_placeIn hn hy) ?_
  refine zw_istore 12 rfl dX11_around_10 (Nat.le_of_ble_eq_true rfl) rfl ?_
  refine zw_ldc2_w 15 rfl dX11_around_12 kX11_247 ?_
  refine zw_aload_n 16 rfl dX11_around_15 rfl ?_
  refine zw_iload_n 17 rfl dX11_around_16 rfl ?_
  refine zw_lald 18 rfl dX11_around_17 (by first | assumption | exact zm_o0 | exact zm_o _ _ _ rfl) (by omega) (by omega) ?_
  rw [Int.toNat_natCast]
  refine zw_lmul 19 rfl dX11_around_18 ?_
  refine zw_iload 21 rfl dX11_around_19 rfl ?_
  refine zw_if_le 32 24 rfl dX11_around_21 (by decide) (by omega) (fun h_21 => ?_) (fun h_21 => ?_)
  · refine zw_lconst 33 rfl dX11_around_32 ?_
    refine zw_ladd 34 rfl dX11_around_33 ?_
    refine zw_iload 36 rfl dX11_around_34 rfl ?_
    refine zw_iload_n 37 rfl dX11_around_36 rfl ?_
    refine zw_cSi1 40 rfl dX11_around_37 kX11_around_249 (Nat.le_of_ble_eq_true rfl) (m_longOf hy) ?_
    refine zw_iconst 41 rfl dX11_around_40 ?_
    refine zw_isub 42 rfl dX11_around_41 ?_
    refine zw_icmp_ge 53 45 rfl dX11_around_42 (by decide) (by omega) (by omega) (fun h_42 => ?_) (fun h_42 => ?_)
    · refine zw_lconst 54 rfl dX11_around_53 ?_
      refine zw_ladd 55 rfl dX11_around_54 ?_
      exact zw_lretR dX11_around_55 rfl (by unfold marF; first | (rw [if_pos (show 0 < mpl n y by omega), if_pos (show mpl n y + 1 < mlg y by omega)]; done) | (rw [if_pos (show 0 < mpl n y by omega), if_neg (show ¬ mpl n y + 1 < mlg y by omega)]; done) | (rw [if_neg (show ¬ 0 < mpl n y by omega), if_pos (show mpl n y + 1 < mlg y by omega)]; done) | (rw [if_neg (show ¬ 0 < mpl n y by omega), if_neg (show ¬ mpl n y + 1 < mlg y by omega)]; done) | (rw [if_pos (show 0 < mpl n y by omega), if_neg (show ¬ mpl n y + 1 < mlg y by omega)]; rfl) | (rw [if_neg (show ¬ 0 < mpl n y by omega), if_pos (show mpl n y + 1 < mlg y by omega)]; rfl) | (rw [if_neg (show ¬ 0 < mpl n y by omega), if_neg (show ¬ mpl n y + 1 < mlg y by omega)]; rfl)) rfl
    · refine zw_aload_n 46 rfl dX11_around_45 rfl ?_
      refine zw_iload_n 47 rfl dX11_around_46 rfl ?_
      refine zw_iload_n 48 rfl dX11_around_47 rfl ?_
      refine zw_iadd 49 rfl dX11_around_48 ?_
      refine zw_lald 50 rfl dX11_around_49 (by first | assumption | exact zm_o0 | exact zm_o _ _ _ rfl) (by have := r3 (by omega); omega) (by omega) ?_
      rw [show ((n : Int) + (mst y : Nat)).toNat = n + mst y by omega]
      refine zw_goto 54 dX11_around_50 (by decide) ?_
      refine zw_ladd 55 rfl dX11_around_54 ?_
      exact zw_lretR dX11_around_55 rfl (by unfold marF; first | (rw [if_pos (show 0 < mpl n y by omega), if_pos (show mpl n y + 1 < mlg y by omega)]; done) | (rw [if_pos (show 0 < mpl n y by omega), if_neg (show ¬ mpl n y + 1 < mlg y by omega)]; done) | (rw [if_neg (show ¬ 0 < mpl n y by omega), if_pos (show mpl n y + 1 < mlg y by omega)]; done) | (rw [if_neg (show ¬ 0 < mpl n y by omega), if_neg (show ¬ mpl n y + 1 < mlg y by omega)]; done) | (rw [if_pos (show 0 < mpl n y by omega), if_neg (show ¬ mpl n y + 1 < mlg y by omega)]; rfl) | (rw [if_neg (show ¬ 0 < mpl n y by omega), if_pos (show mpl n y + 1 < mlg y by omega)]; rfl) | (rw [if_neg (show ¬ 0 < mpl n y by omega), if_neg (show ¬ mpl n y + 1 < mlg y by omega)]; rfl)) rfl
  · refine zw_aload_n 25 rfl dX11_around_24 rfl ?_
    refine zw_iload_n 26 rfl dX11_around_25 rfl ?_
    refine zw_iload_n 27 rfl dX11_around_26 rfl ?_
    refine zw_isub 28 rfl dX11_around_27 ?_
    refine zw_lald 29 rfl dX11_around_28 (by first | assumption | exact zm_o0 | exact zm_o _ _ _ rfl) (by have := r2 (by omega); omega) (by omega) ?_
    rw [show ((n : Int) - (mst y : Nat)).toNat = n - mst y by omega]
    refine zw_goto 33 dX11_around_29 (by decide) ?_
    refine zw_ladd 34 rfl dX11_around_33 ?_
    refine zw_iload 36 rfl dX11_around_34 rfl ?_
    refine zw_iload_n 37 rfl dX11_around_36 rfl ?_
    refine zw_cSi1 40 rfl dX11_around_37 kX11_around_249 (Nat.le_of_ble_eq_true rfl) (m_longOf hy) ?_
    refine zw_iconst 41 rfl dX11_around_40 ?_
    refine zw_isub 42 rfl dX11_around_41 ?_
    refine zw_icmp_ge 53 45 rfl dX11_around_42 (by decide) (by omega) (by omega) (fun h_42 => ?_) (fun h_42 => ?_)
    · refine zw_lconst 54 rfl dX11_around_53 ?_
      refine zw_ladd 55 rfl dX11_around_54 ?_
      exact zw_lretR dX11_around_55 rfl (by unfold marF; first | (rw [if_pos (show 0 < mpl n y by omega), if_pos (show mpl n y + 1 < mlg y by omega)]; done) | (rw [if_pos (show 0 < mpl n y by omega), if_neg (show ¬ mpl n y + 1 < mlg y by omega)]; done) | (rw [if_neg (show ¬ 0 < mpl n y by omega), if_pos (show mpl n y + 1 < mlg y by omega)]; done) | (rw [if_neg (show ¬ 0 < mpl n y by omega), if_neg (show ¬ mpl n y + 1 < mlg y by omega)]; done) | (rw [if_pos (show 0 < mpl n y by omega), if_neg (show ¬ mpl n y + 1 < mlg y by omega)]; rfl) | (rw [if_neg (show ¬ 0 < mpl n y by omega), if_pos (show mpl n y + 1 < mlg y by omega)]; rfl) | (rw [if_neg (show ¬ 0 < mpl n y by omega), if_neg (show ¬ mpl n y + 1 < mlg y by omega)]; rfl)) rfl
    · refine zw_aload_n 46 rfl dX11_around_45 rfl ?_
      refine zw_iload_n 47 rfl dX11_around_46 rfl ?_
      refine zw_iload_n 48 rfl dX11_around_47 rfl ?_
      refine zw_iadd 49 rfl dX11_around_48 ?_
      refine zw_lald 50 rfl dX11_around_49 (by first | assumption | exact zm_o0 | exact zm_o _ _ _ rfl) (by have := r3 (by omega); omega) (by omega) ?_
      rw [show ((n : Int) + (mst y : Nat)).toNat = n + mst y by omega]
      refine zw_goto 54 dX11_around_50 (by decide) ?_
      refine zw_ladd 55 rfl dX11_around_54 ?_
      exact zw_lretR dX11_around_55 rfl (by unfold marF; first | (rw [if_pos (show 0 < mpl n y by omega), if_pos (show mpl n y + 1 < mlg y by omega)]; done) | (rw [if_pos (show 0 < mpl n y by omega), if_neg (show ¬ mpl n y + 1 < mlg y by omega)]; done) | (rw [if_neg (show ¬ 0 < mpl n y by omega), if_pos (show mpl n y + 1 < mlg y by omega)]; done) | (rw [if_neg (show ¬ 0 < mpl n y by omega), if_neg (show ¬ mpl n y + 1 < mlg y by omega)]; done) | (rw [if_pos (show 0 < mpl n y by omega), if_neg (show ¬ mpl n y + 1 < mlg y by omega)]; rfl) | (rw [if_neg (show ¬ 0 < mpl n y by omega), if_pos (show mpl n y + 1 < mlg y by omega)]; rfl) | (rw [if_neg (show ¬ 0 < mpl n y by omega), if_neg (show ¬ mpl n y + 1 < mlg y by omega)]; rfl)) rfl
def mBl (C g : Nat) (y : Int) (σ σ' τ τ' : zSt) : Prop := σ' = zu σ (C + 17) (3 * g + y.toNat) (σ (C + 17) (3 * g + y.toNat) + 1) ∧ (∀ b j, b ≠ C + 13 → b ≠ C + 14 → ¬ ((b = C + 11 ∨ b = C + 12) ∧ 17043 * g ≤ j ∧ j < 17043 * g + 17043) → τ' b j = τ b j) ∧ ∀ n, n < 17043 → τ' (C + 11) (17043 * g + n) = marF (fun m => τ (C + 11) (17043 * g + m)) n y ∧ τ' (C + 12) (17043 * g + n) = marF (fun m => τ (C + 12) (17043 * g + m)) n y
theorem marF_c {f f' : Nat → Int} {n : Nat} {y : Int} (hn : n < 17043) (hy : 0 ≤ y ∧ y ≤ 2) (h : ∀ m, m < 17043 → f m = f' m) : marF f n y = marF f' n y := by
  obtain ⟨r1, r2, r3⟩ := mpl_r hn hy
  unfold marF
  rw [h n hn]
  by_cases q1 : 0 < mpl n y <;> by_cases q2 : mpl n y + 1 < mlg y
  · rw [if_pos q1, if_pos q1, if_pos q2, if_pos q2, h _ (by omega), h _ (r3 q2)]
  · rw [if_pos q1, if_pos q1, if_neg q2, if_neg q2, h _ (by omega)]
  · rw [if_neg q1, if_neg q1, if_pos q2, if_pos q2, h _ (r3 q2)]
  · rw [if_neg q1, if_neg q1, if_neg q2, if_neg q2]
theorem m_blurs {G : zG} {C : Nat} {σ τ : zSt} {g : Nat} {y : Int} (hg : g < 2) (hy : 0 ≤ y ∧ y ≤ 2) : zC G M_X11_blurs [.ref C, vi (g : Int), vi y] (zmS C, σ, τ) (fun u w' => u = none ∧ ∃ σ' τ' : zSt, w' = (zmS C, σ', τ') ∧ mBl C g y σ σ' τ τ') := by
  refine zC_of 1 rfl (Nat.le_of_ble_eq_true rfl) ?_
  have two : ∀ τ1 : zSt, (∀ b j, b ≠ C + 13 → b ≠ C + 14 → τ1 b j = τ b j) → (∀ n, n < 17043 → τ1 (C + 13) n = τ (C + 11) (17043 * g + n) ∧ τ1 (C + 14) n = τ (C + 12) (17043 * g + n)) → zW G M_X11_blurs (fun u w' => u = none ∧ ∃ σ' τ' : zSt, w' = (zmS C, σ', τ') ∧ mBl C g y σ σ' τ τ') 53 [some (.ref C), some (vi (g : Int)), some (vi y), some (vi (0 : Nat))] [] (zmS C, σ, τ1) := by
    intro τ1 f1 f2
    have key : ∀ τs : zSt, mTF C g τ1 τs → (∀ n, n < 0 → τs (C + 11) (17043 * g + n) = marF (τ1 (C + 13)) n y ∧ τs (C + 12) (17043 * g + n) = marF (τ1 (C + 14)) n y) → zW G M_X11_blurs (fun u w' => u = none ∧ ∃ σ' τ' : zSt, w' = (zmS C, σ', τ') ∧ mBl C g y σ σ' τ τ') 53 [some (.ref C), some (vi (g : Int)), some (vi y), some (vi (0 : Nat))] [] (zmS C, σ, τs) := by
      refine zloop (n := 17043) (L := fun k => ∀ τs : zSt, mTF C g τ1 τs → (∀ n, n < k → τs (C + 11) (17043 * g + n) = marF (τ1 (C + 13)) n y ∧ τs (C + 12) (17043 * g + n) = marF (τ1 (C + 14)) n y) → zW G M_X11_blurs (fun u w' => u = none ∧ ∃ σ' τ' : zSt, w' = (zmS C, σ', τ') ∧ mBl C g y σ σ' τ τ') 53 [some (.ref C), some (vi (g : Int)), some (vi y), some (vi k)] [] (zmS C, σ, τs)) ?_ ?_
      · intro τs h1 h2
        refine zw_iload_n 54 rfl dX11_blurs_53 rfl ?_
        refine zw_sipush 57 rfl dX11_blurs_54 rfl ?_
        refine zw_icmp_ge 108 60 rfl dX11_blurs_57 (by decide) (by omega) (by omega) (fun h_57 => ?_) (fun h_57 => ?_)
        · refine zw_aload_n 109 rfl dX11_blurs_108 rfl ?_
          refine zw_getr 112 rfl dX11_blurs_109 fl_X11_64 (by first | assumption | exact zm_o0 | exact zm_o _ _ _ rfl) (by first | assumption | exact zm_f _ _ rfl) ?_
          refine zw_iconst 113 rfl dX11_blurs_112 ?_
          refine zw_iload_n 114 rfl dX11_blurs_113 rfl ?_
          refine zw_imul 115 rfl dX11_blurs_114 ?_
          refine zw_iload_n 116 rfl dX11_blurs_115 rfl ?_
          refine zw_iadd 117 rfl dX11_blurs_116 ?_
          refine zw_dup2_11 118 rfl dX11_blurs_117 rfl rfl ?_
          refine zw_iald 119 rfl dX11_blurs_118 (by first | assumption | exact zm_o0 | exact zm_o _ _ _ rfl) (by omega) (by omega) ?_
          refine zw_iconst 120 rfl dX11_blurs_119 ?_
          refine zw_iadd 121 rfl dX11_blurs_120 ?_
          refine zw_iast 122 rfl dX11_blurs_121 (by first | assumption | exact zm_o0 | exact zm_o _ _ _ rfl) (by omega) (by omega) ?_
          rw [show (3 * (g : Int) + y).toNat = 3 * g + y.toNat by omega]
          refine zw_vret (st := []) dX11_blurs_122 rfl ⟨rfl, _, _, rfl, rfl, fun b j b1 b2 b3 => by rw [h1 b j b3, f1 b j b1 b2], fun n hn => ⟨?_, ?_⟩⟩
          · rw [(h2 n hn).1]; exact marF_c hn hy (fun m hm => (f2 m hm).1)
          · rw [(h2 n hn).2]; exact marF_c hn hy (fun m hm => (f2 m hm).2)
        · exfalso; omega
      · intro k hk ih τs h1 h2
        have e13 : ∀ b v, b ≠ C + 13 → zu τs b v = zu τs b v := fun _ _ _ => rfl
        have t13 : τs (C + 13) = τ1 (C + 13) := funext fun j => h1 _ _ (by omega)
        have t14 : τs (C + 14) = τ1 (C + 14) := funext fun j => h1 _ _ (by omega)
        have hix : (17043 * (g : Int) + (k : Int)).toNat = 17043 * g + k := by omega
        refine zw_iload_n 54 rfl dX11_blurs_53 rfl ?_
        refine zw_sipush 57 rfl dX11_blurs_54 rfl ?_
        refine zw_icmp_ge 108 60 rfl dX11_blurs_57 (by decide) (by omega) (by omega) (fun h_57 => ?_) (fun h_57 => ?_)
        · exfalso; omega
        · refine zw_aload_n 61 rfl dX11_blurs_60 rfl ?_
          refine zw_getr 64 rfl dX11_blurs_61 fl_X11_45 (by first | assumption | exact zm_o0 | exact zm_o _ _ _ rfl) (by first | assumption | exact zm_f _ _ rfl) ?_
          refine zw_sipush 67 rfl dX11_blurs_64 rfl ?_
          refine zw_iload_n 68 rfl dX11_blurs_67 rfl ?_
          refine zw_imul 69 rfl dX11_blurs_68 ?_
          refine zw_iload_n 70 rfl dX11_blurs_69 rfl ?_
          refine zw_iadd 71 rfl dX11_blurs_70 ?_
          refine zw_aload_n 72 rfl dX11_blurs_71 rfl ?_
          refine zw_getr 75 rfl dX11_blurs_72 fl_X11_52 (by first | assumption | exact zm_o0 | exact zm_o _ _ _ rfl) (by first | assumption | exact zm_f _ _ rfl) ?_
          refine zw_iload_n 76 rfl dX11_blurs_75 rfl ?_
          refine zw_iload_n 77 rfl dX11_blurs_76 rfl ?_
          refine zw_cSi3 80 rfl dX11_blurs_77 kX11_blurs_252 (Nat.le_of_ble_eq_true rfl) (m_around (zm_o 13 13 17043 rfl) hk hy) ?_
          rw [t13]
          refine zw_last 81 rfl dX11_blurs_80 (by first | assumption | exact zm_o0 | exact zm_o _ _ _ rfl) (by omega) (by omega) ?_
          rw [hix]
          refine zw_aload_n 82 rfl dX11_blurs_81 rfl ?_
          refine zw_getr 85 rfl dX11_blurs_82 fl_X11_49 (by first | assumption | exact zm_o0 | exact zm_o _ _ _ rfl) (by first | assumption | exact zm_f _ _ rfl) ?_
          refine zw_sipush 88 rfl dX11_blurs_85 rfl ?_
          refine zw_iload_n 89 rfl dX11_blurs_88 rfl ?_
          refine zw_imul 90 rfl dX11_blurs_89 ?_
          refine zw_iload_n 91 rfl dX11_blurs_90 rfl ?_
          refine zw_iadd 92 rfl dX11_blurs_91 ?_
          refine zw_aload_n 93 rfl dX11_blurs_92 rfl ?_
          refine zw_getr 96 rfl dX11_blurs_93 fl_X11_55 (by first | assumption | exact zm_o0 | exact zm_o _ _ _ rfl) (by first | assumption | exact zm_f _ _ rfl) ?_
          refine zw_iload_n 97 rfl dX11_blurs_96 rfl ?_
          refine zw_iload_n 98 rfl dX11_blurs_97 rfl ?_
          refine zw_cSi3 101 rfl dX11_blurs_98 kX11_blurs_252 (Nat.le_of_ble_eq_true rfl) (m_around (zm_o 14 13 17043 rfl) hk hy) ?_
          rw [zu_row _ _ (by omega), t14]
          refine zw_last 102 rfl dX11_blurs_101 (by first | assumption | exact zm_o0 | exact zm_o _ _ _ rfl) (by omega) (by omega) ?_
          refine zw_iinc 105 rfl dX11_blurs_102 (Nat.le_of_ble_eq_true rfl) rfl rfl ?_
          refine zw_goto 53 dX11_blurs_105 (by decide) ?_
          rw [hix]
          refine ih _ ((h1.u (Or.inl rfl) hk).u (Or.inr rfl) hk) (fun n hn => ?_)
          by_cases q : n = k
          · subst q; rw [zu_eq, zu_a _ _ (by omega), zu_eq]; exact ⟨rfl, rfl⟩
          · rw [zu_ne _ _ (by omega), zu_ne _ _ (by omega), zu_ne _ _ (by omega), zu_ne _ _ (by omega)]; exact h2 n (by omega)
    exact key τ1 (fun _ _ _ => rfl) (fun n hn => absurd hn (by omega))
  have one : ∀ τs : zSt, (∀ b j, b ≠ C + 13 → b ≠ C + 14 → τs b j = τ b j) → (∀ n, n < 0 → τs (C + 13) n = τ (C + 11) (17043 * g + n) ∧ τs (C + 14) n = τ (C + 12) (17043 * g + n)) → zW G M_X11_blurs (fun u w' => u = none ∧ ∃ σ' τ' : zSt, w' = (zmS C, σ', τ') ∧ mBl C g y σ σ' τ τ') 2 [some (.ref C), some (vi (g : Int)), some (vi y), some (vi (0 : Nat))] [] (zmS C, σ, τs) := by
    refine zloop (n := 17043) (L := fun k => ∀ τs : zSt, (∀ b j, b ≠ C + 13 → b ≠ C + 14 → τs b j = τ b j) → (∀ n, n < k → τs (C + 13) n = τ (C + 11) (17043 * g + n) ∧ τs (C + 14) n = τ (C + 12) (17043 * g + n)) → zW G M_X11_blurs (fun u w' => u = none ∧ ∃ σ' τ' : zSt, w' = (zmS C, σ', τ') ∧ mBl C g y σ σ' τ τ') 2 [some (.ref C), some (vi (g : Int)), some (vi y), some (vi k)] [] (zmS C, σ, τs)) ?_ ?_
    · intro τs h1 h2
      refine zw_iload_n 3 rfl dX11_blurs_2 rfl ?_
      refine zw_sipush 6 rfl dX11_blurs_3 rfl ?_
      refine zw_icmp_ge 51 9 rfl dX11_blurs_6 (by decide) (by omega) (by omega) (fun h_6 => ?_) (fun h_6 => ?_)
      · refine zw_iconst 52 rfl dX11_blurs_51 ?_
        refine zw_istore_n 53 rfl dX11_blurs_52 (Nat.le_of_ble_eq_true rfl) rfl ?_
        exact two τs h1 h2
      · exfalso; omega
    · intro k hk ih τs h1 h2
      have hix : (17043 * (g : Int) + (k : Int)).toNat = 17043 * g + k := by omega
      refine zw_iload_n 3 rfl dX11_blurs_2 rfl ?_
      refine zw_sipush 6 rfl dX11_blurs_3 rfl ?_
      refine zw_icmp_ge 51 9 rfl dX11_blurs_6 (by decide) (by omega) (by omega) (fun h_6 => ?_) (fun h_6 => ?_)
      · exfalso; omega
      · refine zw_aload_n 10 rfl dX11_blurs_9 rfl ?_
        refine zw_getr 13 rfl dX11_blurs_10 fl_X11_52 (by first | assumption | exact zm_o0 | exact zm_o _ _ _ rfl) (by first | assumption | exact zm_f _ _ rfl) ?_
        refine zw_iload_n 14 rfl dX11_blurs_13 rfl ?_
        refine zw_aload_n 15 rfl dX11_blurs_14 rfl ?_
        refine zw_getr 18 rfl dX11_blurs_15 fl_X11_45 (by first | assumption | exact zm_o0 | exact zm_o _ _ _ rfl) (by first | assumption | exact zm_f _ _ rfl) ?_
        refine zw_sipush 21 rfl dX11_blurs_18 rfl ?_
        refine zw_iload_n 22 rfl dX11_blurs_21 rfl ?_
        refine zw_imul 23 rfl dX11_blurs_22 ?_
        refine zw_iload_n 24 rfl dX11_blurs_23 rfl ?_
        refine zw_iadd 25 rfl dX11_blurs_24 ?_
        refine zw_lald 26 rfl dX11_blurs_25 (by first | assumption | exact zm_o0 | exact zm_o _ _ _ rfl) (by omega) (by omega) ?_
        rw [hix, h1 _ _ (by omega) (by omega)]
        refine zw_last 27 rfl dX11_blurs_26 (by first | assumption | exact zm_o0 | exact zm_o _ _ _ rfl) (by omega) (by omega) ?_
        rw [Int.toNat_natCast]
        refine zw_aload_n 28 rfl dX11_blurs_27 rfl ?_
        refine zw_getr 31 rfl dX11_blurs_28 fl_X11_55 (by first | assumption | exact zm_o0 | exact zm_o _ _ _ rfl) (by first | assumption | exact zm_f _ _ rfl) ?_
        refine zw_iload_n 32 rfl dX11_blurs_31 rfl ?_
        refine zw_aload_n 33 rfl dX11_blurs_32 rfl ?_
        refine zw_getr 36 rfl dX11_blurs_33 fl_X11_49 (by first | assumption | exact zm_o0 | exact zm_o _ _ _ rfl) (by first | assumption | exact zm_f _ _ rfl) ?_
        refine zw_sipush 39 rfl dX11_blurs_36 rfl ?_
        refine zw_iload_n 40 rfl dX11_blurs_39 rfl ?_
        refine zw_imul 41 rfl dX11_blurs_40 ?_
        refine zw_iload_n 42 rfl dX11_blurs_41 rfl ?_
        refine zw_iadd 43 rfl dX11_blurs_42 ?_
        refine zw_lald 44 rfl dX11_blurs_43 (by first | assumption | exact zm_o0 | exact zm_o _ _ _ rfl) (by omega) (by omega) ?_
        rw [hix, zu_a _ _ (by omega), h1 _ _ (by omega) (by omega)]
        refine zw_last 45 rfl dX11_blurs_44 (by first | assumption | exact zm_o0 | exact zm_o _ _ _ rfl) (by omega) (by omega) ?_
        refine zw_iinc 48 rfl dX11_blurs_45 (Nat.le_of_ble_eq_true rfl) rfl rfl ?_
        refine zw_goto 2 dX11_blurs_48 (by decide) ?_
        rw [Int.toNat_natCast]
        refine ih _ (fun b j b1 b2 => by rw [zu_a _ _ b2, zu_a _ _ b1]; exact h1 b j b1 b2) (fun n hn => ?_)
        by_cases q : n = k
        · subst q; rw [zu_eq, zu_a _ _ (by omega), zu_eq]; exact ⟨rfl, rfl⟩
        · rw [zu_ne _ _ (by omega), zu_ne _ _ (by omega), zu_ne _ _ (by omega), zu_ne _ _ (by omega)]; exact h2 n (by omega)
  refine zw_iconst 1 rfl dX11_blurs_0 ?_
  refine zw_istore_n 2 rfl dX11_blurs_1 (Nat.le_of_ble_eq_true rfl) rfl ?_
  exact one τ (fun _ _ _ _ => rfl) (fun n hn => absurd hn (by omega))
theorem marF_g {A : zGr} {n : Nat} {y : Int} (hk : zGok A) (hy : 0 ≤ y ∧ y ≤ 2) (h3 : zGy A y < 3) (hn : n < 17043) : marF (fun m => zwt A (mnI m) (mnJ m) (mnK m)) n y = zwt (zGb A y) (mnI n) (mnJ n) (mnK n) ∧ marF (fun m => zsm A (mnI m) (mnJ m) (mnK m)) n y = zsm (zGb A y) (mnI n) (mnJ n) (mnK n) := by
  have hk0 := hk
  obtain ⟨k1, k2, k3, k4, k5, k6, k7, k8, k9, k10⟩ := hk
  obtain ⟨m1, m2, m3, m4⟩ := mnIJK hn
  unfold zGy at h3
  unfold marF
  dsimp only
  rcases (show y = 0 ∨ y = 1 ∨ y = 2 by omega) with rfl | rfl | rfl
  · rw [if_pos rfl] at h3
    obtain ⟨b1, b2⟩ := zwt_b0 (g := A) (by omega) (mnI n) (mnJ n) (mnK n)
    rw [b1, b2]
    have e1 : mpl n 0 = n / 741 ∧ mlg 0 = 23 ∧ mst 0 = 741 := ⟨rfl, rfl, rfl⟩
    rw [e1.1, e1.2.1, e1.2.2]
    by_cases q1 : 0 < n / 741
    · rw [if_pos q1, if_pos q1, show mnI (n - 741) = mnI n - 1 by unfold mnI; omega, show mnJ (n - 741) = mnJ n by unfold mnJ; omega, show mnK (n - 741) = mnK n by unfold mnK; omega]
      by_cases q2 : n / 741 + 1 < 23
      · rw [if_pos q2, if_pos q2, show mnI (n + 741) = mnI n + 1 by unfold mnI; omega, show mnJ (n + 741) = mnJ n by unfold mnJ; omega, show mnK (n + 741) = mnK n by unfold mnK; omega]
        exact ⟨rfl, rfl⟩
      · have z := zwt_far (g := A) (i := mnI n + 1) (j := mnJ n) (k := mnK n) hk0 (by unfold mnI at *; omega)
        rw [if_neg q2, if_neg q2, z.1, z.2]; exact ⟨rfl, rfl⟩
    · have z := zwt_far (g := A) (i := mnI n - 1) (j := mnJ n) (k := mnK n) hk0 (by unfold mnI at *; omega)
      rw [if_neg q1, if_neg q1, z.1, z.2, if_pos (by omega), if_pos (by omega), show mnI (n + 741) = mnI n + 1 by unfold mnI; omega, show mnJ (n + 741) = mnJ n by unfold mnJ; omega, show mnK (n + 741) = mnK n by unfold mnK; omega]
      exact ⟨rfl, rfl⟩
  · rw [if_neg (by omega), if_pos rfl] at h3
    obtain ⟨b1, b2⟩ := zwt_b1 (g := A) (by omega) (mnI n) (mnJ n) (mnK n)
    rw [b1, b2]
    have e1 : mpl n 1 = n / 39 % 19 ∧ mlg 1 = 19 ∧ mst 1 = 39 := ⟨rfl, rfl, rfl⟩
    rw [e1.1, e1.2.1, e1.2.2]
    by_cases q1 : 0 < n / 39 % 19
    · rw [if_pos q1, if_pos q1, show mnI (n - 39) = mnI n by unfold mnI; omega, show mnJ (n - 39) = mnJ n - 1 by unfold mnJ; omega, show mnK (n - 39) = mnK n by unfold mnK; omega]
      by_cases q2 : n / 39 % 19 + 1 < 19
      · rw [if_pos q2, if_pos q2, show mnI (n + 39) = mnI n by unfold mnI; omega, show mnJ (n + 39) = mnJ n + 1 by unfold mnJ; omega, show mnK (n + 39) = mnK n by unfold mnK; omega]
        exact ⟨rfl, rfl⟩
      · have z := zwt_far (g := A) (i := mnI n) (j := mnJ n + 1) (k := mnK n) hk0 (by unfold mnJ at *; omega)
        rw [if_neg q2, if_neg q2, z.1, z.2]; exact ⟨rfl, rfl⟩
    · have z := zwt_far (g := A) (i := mnI n) (j := mnJ n - 1) (k := mnK n) hk0 (by unfold mnJ at *; omega)
      rw [if_neg q1, if_neg q1, z.1, z.2, if_pos (by omega), if_pos (by omega), show mnI (n + 39) = mnI n by unfold mnI; omega, show mnJ (n + 39) = mnJ n + 1 by unfold mnJ; omega, show mnK (n + 39) = mnK n by unfold mnK; omega]
      exact ⟨rfl, rfl⟩
  · rw [if_neg (by omega), if_neg (by omega)] at h3
    obtain ⟨b1, b2⟩ := zwt_b2 (g := A) (by omega) (mnI n) (mnJ n) (mnK n)
    rw [b1, b2]
    have e1 : mpl n 2 = n % 39 ∧ mlg 2 = 39 ∧ mst 2 = 1 := ⟨rfl, rfl, rfl⟩
    rw [e1.1, e1.2.1, e1.2.2]
    by_cases q1 : 0 < n % 39
    · rw [if_pos q1, if_pos q1, show mnI (n - 1) = mnI n by unfold mnI; omega, show mnJ (n - 1) = mnJ n by unfold mnJ; omega, show mnK (n - 1) = mnK n - 1 by unfold mnK; omega]
      by_cases q2 : n % 39 + 1 < 39
      · rw [if_pos q2, if_pos q2, show mnI (n + 1) = mnI n by unfold mnI; omega, show mnJ (n + 1) = mnJ n by unfold mnJ; omega, show mnK (n + 1) = mnK n + 1 by unfold mnK; omega]
        exact ⟨rfl, rfl⟩
      · have z := zwt_far (g := A) (i := mnI n) (j := mnJ n) (k := mnK n + 1) hk0 (by unfold mnK at *; omega)
        rw [if_neg q2, if_neg q2, z.1, z.2]; exact ⟨rfl, rfl⟩
    · have z := zwt_far (g := A) (i := mnI n) (j := mnJ n) (k := mnK n - 1) hk0 (by unfold mnK at *; omega)
      rw [if_neg q1, if_neg q1, z.1, z.2, if_pos (by omega), if_pos (by omega), show mnI (n + 1) = mnI n by unfold mnI; omega, show mnJ (n + 1) = mnJ n by unfold mnJ; omega, show mnK (n + 1) = mnK n + 1 by unfold mnK; omega]
      exact ⟨rfl, rfl⟩
theorem mBl.gd {C g : Nat} {y : Int} {σ σ' τ τ' : zSt} {A : zGr} (h : mBl C g y σ σ' τ τ') (hd : mGd C τ g A) (hk : zGok A) (hy : 0 ≤ y ∧ y ≤ 2) (h3 : zGy A y < 3) : mGd C τ' g (zGb A y) := fun n hn => by
  have e := marF_g hk hy h3 hn
  rw [← e.1, ← e.2, (h.2.2 n hn).1, (h.2.2 n hn).2]
  exact ⟨marF_c hn hy (fun m hm => (hd m hm).1), marF_c hn hy (fun m hm => (hd m hm).2)⟩
theorem zGb_ok {A : zGr} {y : Int} (hk : zGok A) (hy : 0 ≤ y ∧ y ≤ 2) (h3 : zGy A y < 3) : zGok (zGb A y) := by
  obtain ⟨k1, k2, k3, k4, k5, k6, k7, k8, k9, k10⟩ := hk
  unfold zGy at h3
  refine ⟨k1, k2, k3, k4, k5, k6, ?_, ?_, ?_, k10⟩
  · show 0 ≤ (if y = 0 then A.2.2.2.2.1 + 1 else A.2.2.2.2.1) ∧ (if y = 0 then A.2.2.2.2.1 + 1 else A.2.2.2.2.1) ≤ 3
    split
    · rename_i q; rw [if_pos q] at h3; omega
    · omega
  · show 0 ≤ (if y = 1 then A.2.2.2.2.2.1 + 1 else A.2.2.2.2.2.1) ∧ (if y = 1 then A.2.2.2.2.2.1 + 1 else A.2.2.2.2.2.1) ≤ 3
    split
    · rename_i q; rw [if_neg (by omega), if_pos q] at h3; omega
    · omega
  · show 0 ≤ (if y = 2 then A.2.2.2.2.2.2 + 1 else A.2.2.2.2.2.2) ∧ (if y = 2 then A.2.2.2.2.2.2 + 1 else A.2.2.2.2.2.2) ≤ 3
    split
    · rename_i q; rw [if_neg (by omega), if_neg (by omega)] at h3; omega
    · omega
/-! ===== reading ===== -/
theorem mRd8 {A : zGr} {f : Nat → Int} (x y v s r : Int) (hs : A.2.2.1 = s) (hr : A.2.2.2.1 = r) (c : Int → Int → Int) (hf : ∀ m, m < 8 → f m = zsumD A.1.1 A.1.2.1 (fun u w => zgift u (x / s + (m / 4 : Nat)) s A.2.2.2.2.1 * zgift w (y / s + (m / 2 % 2 : Nat)) s A.2.2.2.2.2.1 * zgift (A.2.1.2.2 u w) (v / r + (m % 2 : Nat)) r A.2.2.2.2.2.2 * c u w)) : zS (fun m => mPt x y v s r m * f m) 8 = zsumD A.1.1 A.1.2.1 (fun u w => zbond y w s A.2.2.2.2.2.1 * zbond x u s A.2.2.2.2.1 * zbond v (A.2.1.2.2 u w) r A.2.2.2.2.2.2 * c u w) := by
  simp only [zS_s, zS_0]
  rw [hf 0 (by omega), hf 1 (by omega), hf 2 (by omega), hf 3 (by omega), hf 4 (by omega), hf 5 (by omega), hf 6 (by omega), hf 7 (by omega)]
  rw [← zsumD_mul, ← zsumD_mul, ← zsumD_mul, ← zsumD_mul, ← zsumD_mul, ← zsumD_mul, ← zsumD_mul, ← zsumD_mul, Int.zero_add, ← zsumD_add, ← zsumD_add, ← zsumD_add, ← zsumD_add, ← zsumD_add, ← zsumD_add, ← zsumD_add]
  refine zsumD_c (fun u w _ _ => ?_)
  rw [zbond_g, zbond_g, zbond_g]
  have e0 : mPt x y v s r 0 = (s - x % s) * (s - y % s) * (r - v % r) := rfl
  have e1 : mPt x y v s r 1 = (s - x % s) * (s - y % s) * (v % r) := rfl
  have e2 : mPt x y v s r 2 = (s - x % s) * (y % s) * (r - v % r) := rfl
  have e3 : mPt x y v s r 3 = (s - x % s) * (y % s) * (v % r) := rfl
  have e4 : mPt x y v s r 4 = (x % s) * (s - y % s) * (r - v % r) := rfl
  have e5 : mPt x y v s r 5 = (x % s) * (s - y % s) * (v % r) := rfl
  have e6 : mPt x y v s r 6 = (x % s) * (y % s) * (r - v % r) := rfl
  have e7 : mPt x y v s r 7 = (x % s) * (y % s) * (v % r) := rfl
  rw [e0, e1, e2, e3, e4, e5, e6, e7]
  show (s - x % s) * (s - y % s) * (r - v % r) * (zgift u (x / s + 0) s A.2.2.2.2.1 * zgift w (y / s + 0) s A.2.2.2.2.2.1 * zgift (A.2.1.2.2 u w) (v / r + 0) r A.2.2.2.2.2.2 * c u w) + (s - x % s) * (s - y % s) * (v % r) * (zgift u (x / s + 0) s A.2.2.2.2.1 * zgift w (y / s + 0) s A.2.2.2.2.2.1 * zgift (A.2.1.2.2 u w) (v / r + 1) r A.2.2.2.2.2.2 * c u w) + (s - x % s) * (y % s) * (r - v % r) * (zgift u (x / s + 0) s A.2.2.2.2.1 * zgift w (y / s + 1) s A.2.2.2.2.2.1 * zgift (A.2.1.2.2 u w) (v / r + 0) r A.2.2.2.2.2.2 * c u w) + (s - x % s) * (y % s) * (v % r) * (zgift u (x / s + 0) s A.2.2.2.2.1 * zgift w (y / s + 1) s A.2.2.2.2.2.1 * zgift (A.2.1.2.2 u w) (v / r + 1) r A.2.2.2.2.2.2 * c u w) + (x % s) * (s - y % s) * (r - v % r) * (zgift u (x / s + 1) s A.2.2.2.2.1 * zgift w (y / s + 0) s A.2.2.2.2.2.1 * zgift (A.2.1.2.2 u w) (v / r + 0) r A.2.2.2.2.2.2 * c u w) + (x % s) * (s - y % s) * (v % r) * (zgift u (x / s + 1) s A.2.2.2.2.1 * zgift w (y / s + 0) s A.2.2.2.2.2.1 * zgift (A.2.1.2.2 u w) (v / r + 1) r A.2.2.2.2.2.2 * c u w) + (x % s) * (y % s) * (r - v % r) * (zgift u (x / s + 1) s A.2.2.2.2.1 * zgift w (y / s + 1) s A.2.2.2.2.2.1 * zgift (A.2.1.2.2 u w) (v / r + 0) r A.2.2.2.2.2.2 * c u w) + (x % s) * (y % s) * (v % r) * (zgift u (x / s + 1) s A.2.2.2.2.1 * zgift w (y / s + 1) s A.2.2.2.2.2.1 * zgift (A.2.1.2.2 u w) (v / r + 1) r A.2.2.2.2.2.2 * c u w) = _
  rw [Int.add_zero, Int.add_zero, Int.add_zero]
  generalize zgift u (x / s) s A.2.2.2.2.1 = g0
  generalize zgift u (x / s + 1) s A.2.2.2.2.1 = g1
  generalize zgift w (y / s) s A.2.2.2.2.2.1 = g2
  generalize zgift w (y / s + 1) s A.2.2.2.2.2.1 = g3
  generalize zgift (A.2.1.2.2 u w) (v / r) r A.2.2.2.2.2.2 = g4
  generalize zgift (A.2.1.2.2 u w) (v / r + 1) r A.2.2.2.2.2.2 = g5
  generalize s - x % s = A0
  generalize x % s = A1
  generalize s - y % s = B0
  generalize y % s = B1
  generalize r - v % r = C0
  generalize v % r = C1
  generalize c u w = d
  grind
