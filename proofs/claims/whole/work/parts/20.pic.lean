/-! ===== a picture ===== -/
def zPic (S : zSh) (a sa : Nat) : Prop := zo S a 5 0 ∧ S.2.2 a 0 = some sa ∧ zo S sa 12 192 ∧ sa ≠ a
/-- its size is within -/
def zPW (σ : zSt) (a : Nat) : Prop := (0 ≤ σ a 1 ∧ σ a 1 ≤ 16) ∧ 0 ≤ σ a 2 ∧ σ a 2 ≤ 12
theorem zz_ix {x y w h : Int} (hx : 0 ≤ x ∧ x < w) (hy : 0 ≤ y ∧ y < h) (hw : w ≤ 16) (hh : h ≤ 12) : 0 ≤ y * w + x ∧ y * w + x < 192 ∧ y * w + x < w * h := by
  have h1 : 0 ≤ y * w := Int.mul_nonneg hy.1 (by omega)
  have h2 : y * w ≤ (h - 1) * w := Int.mul_le_mul_of_nonneg_right (by omega) (by omega)
  have h3 : (h - 1) * w ≤ (h - 1) * 16 := Int.mul_le_mul_of_nonneg_left hw (by omega)
  have h4 : (h - 1) * w = w * h - w := by rw [Int.sub_mul, Int.mul_comm h w]; omega
  omega
/-- a dot is there -/
abbrev zHas (σ : zSt) (a : Nat) (x y : Int) : Prop := (0 ≤ x ∧ x < σ a 1) ∧ 0 ≤ y ∧ y < σ a 2
/-- the shade of a dot -/
def zDot (σ : zSt) (a sa : Nat) (x y : Int) : Int := if zHas σ a x y then σ sa (y * σ a 1 + x).toNat else 0
theorem c_contains {G : zG} {S : zSh} {σ τ : zSt} {a sa : Nat} {x y : Int} (hp : zPic S a sa) (hw : zPW σ a) (hx : -2147483648 ≤ x ∧ x ≤ 2147483647) (hy : -2147483648 ≤ y ∧ y ≤ 2147483647) : zC G M_X5_contains [.ref a, vi x, vi y] (S, σ, τ) (zR (some (vi (if zHas σ a x y then 1 else 0))) (S, σ, τ)) := by
  obtain ⟨ha, hs, hsa, hne⟩ := hp
  obtain ⟨⟨w0, w1⟩, w2, w3⟩ := hw
  refine zC_of 0 rfl (Nat.le_of_ble_eq_true rfl) ?_
  refine zw_iload_n 1 rfl dX5_contains_0 rfl ?_
  refine zw_if_lt 28 4 rfl dX5_contains_1 (by decide) (by omega) (fun h_1 => ?_) (fun h_1 => ?_)
  · refine zw_iconst 29 rfl dX5_contains_28 ?_
    exact zw_zretR dX5_contains_29 rfl (by omega) (by first | (rw [if_pos (by omega)]) | (rw [if_neg (by omega)])) rfl
  · refine zw_iload_n 5 rfl dX5_contains_4 rfl ?_
    refine zw_aload_n 6 rfl dX5_contains_5 rfl ?_
    refine zw_geti 9 rfl dX5_contains_6 fl_X5_15 (by assumption) ?_
    refine zw_icmp_ge 28 12 rfl dX5_contains_9 (by decide) (by omega) (by omega) (fun h_9 => ?_) (fun h_9 => ?_)
    · refine zw_iconst 29 rfl dX5_contains_28 ?_
      exact zw_zretR dX5_contains_29 rfl (by omega) (by first | (rw [if_pos (by omega)]) | (rw [if_neg (by omega)])) rfl
    · refine zw_iload_n 13 rfl dX5_contains_12 rfl ?_
      refine zw_if_lt 28 16 rfl dX5_contains_13 (by decide) (by omega) (fun h_13 => ?_) (fun h_13 => ?_)
      · refine zw_iconst 29 rfl dX5_contains_28 ?_
        exact zw_zretR dX5_contains_29 rfl (by omega) (by first | (rw [if_pos (by omega)]) | (rw [if_neg (by omega)])) rfl
      · refine zw_iload_n 17 rfl dX5_contains_16 rfl ?_
        refine zw_aload_n 18 rfl dX5_contains_17 rfl ?_
        refine zw_geti 21 rfl dX5_contains_18 fl_X5_19 (by assumption) ?_
        refine zw_icmp_ge 28 24 rfl dX5_contains_21 (by decide) (by omega) (by omega) (fun h_21 => ?_) (fun h_21 => ?_)
        · refine zw_iconst 29 rfl dX5_contains_28 ?_
          exact zw_zretR dX5_contains_29 rfl (by omega) (by first | (rw [if_pos (by omega)]) | (rw [if_neg (by omega)])) rfl
        · refine zw_iconst 25 rfl dX5_contains_24 ?_
          refine zw_goto 29 dX5_contains_25 (by decide) ?_
          exact zw_zretR dX5_contains_29 rfl (by omega) (by first | (rw [if_pos (by omega)]) | (rw [if_neg (by omega)])) rfl
theorem c_shadeAt {G : zG} {S : zSh} {σ τ : zSt} {a sa : Nat} {x y : Int} (hp : zPic S a sa) (hw : zPW σ a) (hx : -2147483648 ≤ x ∧ x ≤ 2147483647) (hy : -2147483648 ≤ y ∧ y ≤ 2147483647) : zC G M_X5_shadeAt [.ref a, vi x, vi y] (S, σ, τ) (zR (some (vi (zDot σ a sa x y))) (S, σ, τ)) := by
  have hp0 := hp
  have hw0 := hw
  obtain ⟨ha, hs, hsa, hne⟩ := hp
  obtain ⟨⟨w0, w1⟩, w2, w3⟩ := hw
  refine zC_of 0 rfl (Nat.le_of_ble_eq_true rfl) ?_
  refine zw_aload_n 1 rfl dX5_shadeAt_0 rfl ?_
  refine zw_iload_n 2 rfl dX5_shadeAt_1 rfl ?_
  refine zw_iload_n 3 rfl dX5_shadeAt_2 rfl ?_
  refine zw_cVi2 6 rfl dX5_shadeAt_3 kX5_shadeAt_37 (Nat.le_of_ble_eq_true rfl) (by assumption) (c_contains hp0 hw0 hx hy) ?_
  refine zw_if_eq 25 9 rfl dX5_shadeAt_6 (by decide) (by split <;> omega) (fun h_6 => ?_) (fun h_6 => ?_)
  · have hin : ¬ zHas σ a x y := fun h => by rw [if_pos h] at h_6; omega
    refine zw_iconst 26 rfl dX5_shadeAt_25 ?_
    exact zw_iretR dX5_shadeAt_26 rfl (by unfold zDot; first | (rw [if_pos hin]) | (rw [if_neg hin])) rfl
  · have hin : zHas σ a x y := by
      by_cases h : zHas σ a x y
      · exact h
      · rw [if_neg h] at h_6; omega
    have hix := zz_ix hin.1 hin.2 w1 w3
    refine zw_aload_n 10 rfl dX5_shadeAt_9 rfl ?_
    refine zw_getr 13 rfl dX5_shadeAt_10 fl_X5_9 (by assumption) (by assumption) ?_
    refine zw_iload_n 14 rfl dX5_shadeAt_13 rfl ?_
    refine zw_aload_n 15 rfl dX5_shadeAt_14 rfl ?_
    refine zw_geti 18 rfl dX5_shadeAt_15 fl_X5_15 (by assumption) ?_
    refine zw_imul 19 rfl dX5_shadeAt_18 ?_
    refine zw_iload_n 20 rfl dX5_shadeAt_19 rfl ?_
    refine zw_iadd 21 rfl dX5_shadeAt_20 ?_
    refine zw_iald 22 rfl dX5_shadeAt_21 (by assumption) (by omega) (by omega) ?_
    refine zw_goto 26 dX5_shadeAt_22 (by decide) ?_
    exact zw_iretR dX5_shadeAt_26 rfl (by unfold zDot; first | (rw [if_pos hin]) | (rw [if_neg hin])) rfl
