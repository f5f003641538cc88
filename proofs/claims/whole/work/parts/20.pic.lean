/-! ===== a picture ===== -/
def zPic (S : zSh) (a sa : Nat) : Prop := zo S a 5 0 ∧ S.2.2 a 0 = some sa ∧ zo S sa 12 192 ∧ sa ≠ a
/-- its size is within -/
def zPW (σ : zSt) (a : Nat) : Prop := (0 ≤ σ a 1 ∧ σ a 1 ≤ 16) ∧ 0 ≤ σ a 2 ∧ σ a 2 ≤ 12
theorem zz_ix {x y w h : Int} (hx : 0 ≤ x ∧ x < w) (hy : 0 ≤ y ∧ y < h) (hw : w ≤ 16) (hh : h ≤ 12) : 0 ≤ y * w + x ∧ y * w + x < 192 ∧ y * w + x < w * h := by
  have h1 : 0 ≤ y * w := Int.mul_nonneg hy.1 (by omega)
  have h2 : y * w ≤ (h - 1) * w := Int.mul_le_mul_of_nonneg_right (by omega) (by omega)
  have h3 : (h - 1) * w ≤ (h - 1) * 16 := Int.mul_le_mul_of_nonneg_left hw (by omega)
  have h4 : (h - 1) * w = w * h - w := by rw [Int.sub_mul, Int.mul_comm h w]; omega
  omega
theorem zz_wh {w h : Int} (hw : 0 ≤ w ∧ w ≤ 16) (hh : 0 ≤ h ∧ h ≤ 12) : 0 ≤ w * h ∧ w * h ≤ 192 := by
  have h1 : 0 ≤ w * h := Int.mul_nonneg hw.1 hh.1
  have h2 : w * h ≤ 16 * h := Int.mul_le_mul_of_nonneg_right hw.2 hh.1
  omega
/-- a dot is there -/
abbrev zHas (σ : zSt) (a : Nat) (x y : Int) : Prop := (0 ≤ x ∧ x < σ a 1) ∧ 0 ≤ y ∧ y < σ a 2
/-- the shade of a dot -/
def zDot (σ : zSt) (a sa : Nat) (x y : Int) : Int := if zHas σ a x y then σ sa (y * σ a 1 + x).toNat else 0
theorem c_contains {G : zG} {S : zSh} {σ τ : zSt} {a sa : Nat} {x y : Int} (hp : zPic S a sa) (hw : zPW σ a) (hx : -2147483648 ≤ x ∧ x ≤ 2147483647) (hy : -2147483648 ≤ y ∧ y ≤ 2147483647) : zC G M_X5_contains [.ref a, vi x, vi y] (S, σ, τ) (zR (some (vi (zb (zHas σ a x y)))) (S, σ, τ)) := by
  have hp0 := hp
  have hw0 := hw
  obtain ⟨ha, hs, hsa, hne⟩ := hp
  obtain ⟨⟨w0, w1⟩, w2, w3⟩ := hw
  refine zC_of 0 rfl (Nat.le_of_ble_eq_true rfl) ?_
  refine zw_iload_n 1 rfl dX5_contains_0 rfl ?_
  refine zw_if_lt 28 4 rfl dX5_contains_1 (by decide) (by omega) (fun h_1 => ?_) (fun h_1 => ?_)
  · refine zw_iconst 29 rfl dX5_contains_28 ?_
    exact zw_zretR dX5_contains_29 rfl (by omega) (by first | exact zb_t (by omega) | exact zb_f (by omega)) rfl
  · refine zw_iload_n 5 rfl dX5_contains_4 rfl ?_
    refine zw_aload_n 6 rfl dX5_contains_5 rfl ?_
    refine zw_geti 9 rfl dX5_contains_6 fl_X5_15 (by first | assumption | exact zx_o0 | exact zx_o _ _ _ rfl) ?_
    refine zw_icmp_ge 28 12 rfl dX5_contains_9 (by decide) (by omega) (by omega) (fun h_9 => ?_) (fun h_9 => ?_)
    · refine zw_iconst 29 rfl dX5_contains_28 ?_
      exact zw_zretR dX5_contains_29 rfl (by omega) (by first | exact zb_t (by omega) | exact zb_f (by omega)) rfl
    · refine zw_iload_n 13 rfl dX5_contains_12 rfl ?_
      refine zw_if_lt 28 16 rfl dX5_contains_13 (by decide) (by omega) (fun h_13 => ?_) (fun h_13 => ?_)
      · refine zw_iconst 29 rfl dX5_contains_28 ?_
        exact zw_zretR dX5_contains_29 rfl (by omega) (by first | exact zb_t (by omega) | exact zb_f (by omega)) rfl
      · refine zw_iload_n 17 rfl dX5_contains_16 rfl ?_
        refine zw_aload_n 18 rfl dX5_contains_17 rfl ?_
        refine zw_geti 21 rfl dX5_contains_18 fl_X5_19 (by first | assumption | exact zx_o0 | exact zx_o _ _ _ rfl) ?_
        refine zw_icmp_ge 28 24 rfl dX5_contains_21 (by decide) (by omega) (by omega) (fun h_21 => ?_) (fun h_21 => ?_)
        · refine zw_iconst 29 rfl dX5_contains_28 ?_
          exact zw_zretR dX5_contains_29 rfl (by omega) (by first | exact zb_t (by omega) | exact zb_f (by omega)) rfl
        · refine zw_iconst 25 rfl dX5_contains_24 ?_
          refine zw_goto 29 dX5_contains_25 (by decide) ?_
          exact zw_zretR dX5_contains_29 rfl (by omega) (by first | exact zb_t (by omega) | exact zb_f (by omega)) rfl
theorem c_shadeAt {G : zG} {S : zSh} {σ τ : zSt} {a sa : Nat} {x y : Int} (hp : zPic S a sa) (hw : zPW σ a) (hx : -2147483648 ≤ x ∧ x ≤ 2147483647) (hy : -2147483648 ≤ y ∧ y ≤ 2147483647) : zC G M_X5_shadeAt [.ref a, vi x, vi y] (S, σ, τ) (zR (some (vi (zDot σ a sa x y))) (S, σ, τ)) := by
  have hp0 := hp
  have hw0 := hw
  obtain ⟨ha, hs, hsa, hne⟩ := hp
  obtain ⟨⟨w0, w1⟩, w2, w3⟩ := hw
  refine zC_of 0 rfl (Nat.le_of_ble_eq_true rfl) ?_
  refine zw_aload_n 1 rfl dX5_shadeAt_0 rfl ?_
  refine zw_iload_n 2 rfl dX5_shadeAt_1 rfl ?_
  refine zw_iload_n 3 rfl dX5_shadeAt_2 rfl ?_
  refine zw_cVi2 6 rfl dX5_shadeAt_3 kX5_shadeAt_37 (Nat.le_of_ble_eq_true rfl) (by first | assumption | exact zx_o0 | exact zx_o _ _ _ rfl) (c_contains hp0 hw0 hx hy) ?_
  refine zw_if_eqB 25 9 rfl dX5_shadeAt_6 (by decide) (fun h_6 => ?_) (fun h_6 => ?_)
  · refine zw_iconst 26 rfl dX5_shadeAt_25 ?_
    exact zw_iretR dX5_shadeAt_26 rfl (by unfold zDot; first | (rw [if_pos h_6]) | (rw [if_neg h_6])) rfl
  · have hix := zz_ix h_6.1 h_6.2 w1 w3
    refine zw_aload_n 10 rfl dX5_shadeAt_9 rfl ?_
    refine zw_getr 13 rfl dX5_shadeAt_10 fl_X5_9 (by first | assumption | exact zx_o0 | exact zx_o _ _ _ rfl) (by first | assumption | exact zx_f0 _ _ rfl | exact zx_f _ _ _ rfl) ?_
    refine zw_iload_n 14 rfl dX5_shadeAt_13 rfl ?_
    refine zw_aload_n 15 rfl dX5_shadeAt_14 rfl ?_
    refine zw_geti 18 rfl dX5_shadeAt_15 fl_X5_15 (by first | assumption | exact zx_o0 | exact zx_o _ _ _ rfl) ?_
    refine zw_imul 19 rfl dX5_shadeAt_18 ?_
    refine zw_iload_n 20 rfl dX5_shadeAt_19 rfl ?_
    refine zw_iadd 21 rfl dX5_shadeAt_20 ?_
    refine zw_iald 22 rfl dX5_shadeAt_21 (by first | assumption | exact zx_o0 | exact zx_o _ _ _ rfl) (by omega) (by omega) ?_
    refine zw_goto 26 dX5_shadeAt_22 (by decide) ?_
    exact zw_iretR dX5_shadeAt_26 rfl (by unfold zDot; first | (rw [if_pos h_6]) | (rw [if_neg h_6])) rfl
theorem c_indexOf {G : zG} {S : zSh} {σ τ : zSt} {a sa : Nat} {x y : Int} (hp : zPic S a sa) (hw : zPW σ a) (hx : -2147483648 ≤ x ∧ x ≤ 2147483647) (hy : -2147483648 ≤ y ∧ y ≤ 2147483647) : zC G M_X5_indexOf [.ref a, vi x, vi y] (S, σ, τ) (zR (some (vi (if zHas σ a x y then y * σ a 1 + x else 0))) (S, σ, τ)) := by
  have hp0 := hp
  have hw0 := hw
  obtain ⟨ha, hs, hsa, hne⟩ := hp
  obtain ⟨⟨w0, w1⟩, w2, w3⟩ := hw
  refine zC_of 0 rfl (Nat.le_of_ble_eq_true rfl) ?_
  refine zw_aload_n 1 rfl dX5_indexOf_0 rfl ?_
  refine zw_iload_n 2 rfl dX5_indexOf_1 rfl ?_
  refine zw_iload_n 3 rfl dX5_indexOf_2 rfl ?_
  refine zw_cVi2 6 rfl dX5_indexOf_3 kX5_indexOf_37 (Nat.le_of_ble_eq_true rfl) (by first | assumption | exact zx_o0 | exact zx_o _ _ _ rfl) (c_contains hp0 hw0 hx hy) ?_
  refine zw_if_eqB 20 9 rfl dX5_indexOf_6 (by decide) (fun h_6 => ?_) (fun h_6 => ?_)
  · refine zw_iconst 21 rfl dX5_indexOf_20 ?_
    exact zw_iretR dX5_indexOf_21 rfl (by first | (rw [if_pos h_6]) | (rw [if_neg h_6])) rfl
  · refine zw_iload_n 10 rfl dX5_indexOf_9 rfl ?_
    refine zw_aload_n 11 rfl dX5_indexOf_10 rfl ?_
    refine zw_geti 14 rfl dX5_indexOf_11 fl_X5_15 (by first | assumption | exact zx_o0 | exact zx_o _ _ _ rfl) ?_
    refine zw_imul 15 rfl dX5_indexOf_14 ?_
    refine zw_iload_n 16 rfl dX5_indexOf_15 rfl ?_
    refine zw_iadd 17 rfl dX5_indexOf_16 ?_
    refine zw_goto 21 dX5_indexOf_17 (by decide) ?_
    exact zw_iretR dX5_indexOf_21 rfl (by first | (rw [if_pos h_6]) | (rw [if_neg h_6])) rfl
theorem c_isTold {G : zG} {S : zSh} {σ τ : zSt} {a sa : Nat} (hp : zPic S a sa) (hw : zPW σ a) : zC G M_X5_isTold [.ref a] (S, σ, τ) (zR (some (vi (zb (0 < σ a 1)))) (S, σ, τ)) := by
  have hp0 := hp
  have hw0 := hw
  obtain ⟨ha, hs, hsa, hne⟩ := hp
  obtain ⟨⟨w0, w1⟩, w2, w3⟩ := hw
  refine zC_of 0 rfl (Nat.le_of_ble_eq_true rfl) ?_
  refine zw_aload_n 1 rfl dX5_isTold_0 rfl ?_
  refine zw_geti 4 rfl dX5_isTold_1 fl_X5_15 (by first | assumption | exact zx_o0 | exact zx_o _ _ _ rfl) ?_
  refine zw_if_le 11 7 rfl dX5_isTold_4 (by decide) (by omega) (fun h_4 => ?_) (fun h_4 => ?_)
  · refine zw_iconst 12 rfl dX5_isTold_11 ?_
    exact zw_zretR dX5_isTold_12 rfl (by omega) (by first | exact zb_t (by omega) | exact zb_f (by omega)) rfl
  · refine zw_iconst 8 rfl dX5_isTold_7 ?_
    refine zw_goto 12 dX5_isTold_8 (by decide) ?_
    exact zw_zretR dX5_isTold_12 rfl (by omega) (by first | exact zb_t (by omega) | exact zb_f (by omega)) rfl
theorem c_forget {G : zG} {S : zSh} {σ τ : zSt} {a : Nat} (ha : zo S a 5 0) : zC G M_X5_forget [.ref a] (S, σ, τ) (zR none (S, zu (zu σ a 1 0) a 2 0, τ)) := by
  refine zC_of 0 rfl (Nat.le_of_ble_eq_true rfl) ?_
  refine zw_aload_n 1 rfl dX5_forget_0 rfl ?_
  refine zw_iconst 2 rfl dX5_forget_1 ?_
  refine zw_puti 5 rfl dX5_forget_2 fp_X5_15 (by first | assumption | exact zx_o0 | exact zx_o _ _ _ rfl) ?_
  refine zw_aload_n 6 rfl dX5_forget_5 rfl ?_
  refine zw_iconst 7 rfl dX5_forget_6 ?_
  refine zw_puti 10 rfl dX5_forget_7 fp_X5_19 (by first | assumption | exact zx_o0 | exact zx_o _ _ _ rfl) ?_
  exact zw_vretR dX5_forget_10 rfl rfl
/-- held within -/
def zhold (m v : Int) : Int := if v < 0 then 0 else if m < v then m else v
theorem zhold_in {m v : Int} (h : 0 ≤ v ∧ v ≤ m) : zhold m v = v := by unfold zhold; split <;> (try split) <;> omega
theorem zhold_r {m v : Int} (h : 0 ≤ m) : 0 ≤ zhold m v ∧ zhold m v ≤ m := by unfold zhold; split <;> (try split) <;> omega
theorem c_resize {G : zG} {S : zSh} {σ τ : zSt} {a : Nat} {x y : Int} (ha : zo S a 5 0) (hx : -2147483648 ≤ x ∧ x ≤ 2147483647) (hy : -2147483648 ≤ y ∧ y ≤ 2147483647) : zC G M_X5_resize [.ref a, vi x, vi y] (S, σ, τ) (zR none (S, zu (zu σ a 1 (zhold 16 x)) a 2 (zhold 12 y), τ)) := by
  refine zC_of 0 rfl (Nat.le_of_ble_eq_true rfl) ?_
  have e1 : (if (0 : Int) < (if x < 16 then x else 16) then (if x < 16 then x else 16) else 0) = zhold 16 x := by unfold zhold; (repeat' split) <;> omega
  have e2 : (if (0 : Int) < (if y < 12 then y else 12) then (if y < 12 then y else 12) else 0) = zhold 12 y := by unfold zhold; (repeat' split) <;> omega
  refine zw_aload_n 1 rfl dX5_resize_0 rfl ?_
  refine zw_iconst 2 rfl dX5_resize_1 ?_
  refine zw_bipush 4 rfl dX5_resize_2 rfl ?_
  refine zw_iload_n 5 rfl dX5_resize_4 rfl ?_
  refine zw_mmin 8 rfl dX5_resize_5 kmX5_22 ⟨Nat.le_of_ble_eq_true rfl, Nat.le_of_ble_eq_true rfl⟩ (by omega) (by omega) ?_
  refine zw_mmax 11 rfl dX5_resize_8 kmX5_28 ⟨Nat.le_of_ble_eq_true rfl, Nat.le_of_ble_eq_true rfl⟩ (by omega) (by split <;> omega) ?_
  refine zw_puti 14 rfl dX5_resize_11 fp_X5_15 (by first | assumption | exact zx_o0 | exact zx_o _ _ _ rfl) ?_
  refine zw_aload_n 15 rfl dX5_resize_14 rfl ?_
  refine zw_iconst 16 rfl dX5_resize_15 ?_
  refine zw_bipush 18 rfl dX5_resize_16 rfl ?_
  refine zw_iload_n 19 rfl dX5_resize_18 rfl ?_
  refine zw_mmin 22 rfl dX5_resize_19 kmX5_22 ⟨Nat.le_of_ble_eq_true rfl, Nat.le_of_ble_eq_true rfl⟩ (by omega) (by omega) ?_
  refine zw_mmax 25 rfl dX5_resize_22 kmX5_28 ⟨Nat.le_of_ble_eq_true rfl, Nat.le_of_ble_eq_true rfl⟩ (by omega) (by split <;> omega) ?_
  refine zw_puti 28 rfl dX5_resize_25 fp_X5_19 (by first | assumption | exact zx_o0 | exact zx_o _ _ _ rfl) ?_
  exact zw_vretR dX5_resize_28 rfl (by rw [e1, e2])
/-- what a picture is when it has become another one -/
def zbec (σ : zSt) (a sa b sb : Nat) : zSt := zr (zu (zu σ a 1 (σ b 1)) a 2 (σ b 2)) sa (fun j => if j < 192 then σ sb j else σ sa j)
theorem c_become {G : zG} {S : zSh} {σ τ : zSt} {a sa b sb : Nat} (hp : zPic S a sa) (hq : zPic S b sb) (h1 : sb ≠ a) (h2 : b ≠ a) : zC G M_X5_become [.ref a, .ref b] (S, σ, τ) (zR none (S, zbec σ a sa b sb, τ)) := by
  obtain ⟨ha, hs, hsa, hne⟩ := hp
  obtain ⟨hb, hs2, hsb, hne2⟩ := hq
  refine zC_of 0 rfl (Nat.le_of_ble_eq_true rfl) ?_
  refine zw_aload_n 1 rfl dX5_become_0 rfl ?_
  refine zw_aload_n 2 rfl dX5_become_1 rfl ?_
  refine zw_geti 5 rfl dX5_become_2 fl_X5_15 (by first | assumption | exact zx_o0 | exact zx_o _ _ _ rfl) ?_
  refine zw_puti 8 rfl dX5_become_5 fp_X5_15 (by first | assumption | exact zx_o0 | exact zx_o _ _ _ rfl) ?_
  refine zw_aload_n 9 rfl dX5_become_8 rfl ?_
  refine zw_aload_n 10 rfl dX5_become_9 rfl ?_
  refine zw_geti 13 rfl dX5_become_10 fl_X5_19 (by first | assumption | exact zx_o0 | exact zx_o _ _ _ rfl) ?_
  refine zw_puti 16 rfl dX5_become_13 fp_X5_19 (by first | assumption | exact zx_o0 | exact zx_o _ _ _ rfl) ?_
  refine zw_aload_n 17 rfl dX5_become_16 rfl ?_
  refine zw_getr 20 rfl dX5_become_17 fl_X5_9 (by first | assumption | exact zx_o0 | exact zx_o _ _ _ rfl) (by first | assumption | exact zx_f0 _ _ rfl | exact zx_f _ _ _ rfl) ?_
  refine zw_iconst 21 rfl dX5_become_20 ?_
  refine zw_aload_n 22 rfl dX5_become_21 rfl ?_
  refine zw_getr 25 rfl dX5_become_22 fl_X5_9 (by first | assumption | exact zx_o0 | exact zx_o _ _ _ rfl) (by first | assumption | exact zx_f0 _ _ rfl | exact zx_f _ _ _ rfl) ?_
  refine zw_iconst 26 rfl dX5_become_25 ?_
  refine zw_sipush 29 rfl dX5_become_26 rfl ?_
  refine zw_copyi 32 rfl dX5_become_29 kcX5_31 ⟨Nat.le_of_ble_eq_true rfl, Nat.le_of_ble_eq_true rfl⟩ hsb hsa (by omega) ?_
  exact zw_vretR dX5_become_32 rfl (by congr 2; unfold zbec; simp [zu, zr, h1, h2, hne])
theorem c_count {G : zG} {S : zSh} {σ τ : zSt} {a sa : Nat} (hp : zPic S a sa) : zC G M_X5_count [.ref a] (S, σ, τ) (zR (some (vi (σ a 1 * σ a 2))) (S, σ, τ)) := by
  obtain ⟨ha, hs, hsa, hne⟩ := hp
  refine zC_of 0 rfl (Nat.le_of_ble_eq_true rfl) ?_
  refine zw_aload_n 1 rfl dX5_count_0 rfl ?_
  refine zw_geti 4 rfl dX5_count_1 fl_X5_15 (by first | assumption | exact zx_o0 | exact zx_o _ _ _ rfl) ?_
  refine zw_aload_n 5 rfl dX5_count_4 rfl ?_
  refine zw_geti 8 rfl dX5_count_5 fl_X5_19 (by first | assumption | exact zx_o0 | exact zx_o _ _ _ rfl) ?_
  refine zw_imul 9 rfl dX5_count_8 ?_
  exact zw_iretR dX5_count_9 rfl rfl rfl
theorem c_putShade {G : zG} {S : zSh} {σ τ : zSt} {a sa : Nat} {x y v : Int} (hp : zPic S a sa) (hw : zPW σ a) (hx : -2147483648 ≤ x ∧ x ≤ 2147483647) (hy : -2147483648 ≤ y ∧ y ≤ 2147483647) : zC G M_X5_putShade [.ref a, vi x, vi y, vi v] (S, σ, τ) (zR none (S, if zHas σ a x y then zu σ sa (y * σ a 1 + x).toNat v else σ, τ)) := by
  have hp0 := hp
  have hw0 := hw
  obtain ⟨ha, hs, hsa, hne⟩ := hp
  obtain ⟨⟨w0, w1⟩, w2, w3⟩ := hw
  refine zC_of 0 rfl (Nat.le_of_ble_eq_true rfl) ?_
  refine zw_aload_n 1 rfl dX5_putShade_0 rfl ?_
  refine zw_iload_n 2 rfl dX5_putShade_1 rfl ?_
  refine zw_iload_n 3 rfl dX5_putShade_2 rfl ?_
  refine zw_cVi2 6 rfl dX5_putShade_3 kX5_putShade_37 (Nat.le_of_ble_eq_true rfl) (by first | assumption | exact zx_o0 | exact zx_o _ _ _ rfl) (c_contains hp0 hw0 hx hy) ?_
  refine zw_if_eqB 23 9 rfl dX5_putShade_6 (by decide) (fun h_6 => ?_) (fun h_6 => ?_)
  · exact zw_vretR dX5_putShade_23 rfl (by first | (rw [if_pos h_6]) | (rw [if_neg h_6]))
  · have hix := zz_ix h_6.1 h_6.2 w1 w3
    refine zw_aload_n 10 rfl dX5_putShade_9 rfl ?_
    refine zw_getr 13 rfl dX5_putShade_10 fl_X5_9 (by first | assumption | exact zx_o0 | exact zx_o _ _ _ rfl) (by first | assumption | exact zx_f0 _ _ rfl | exact zx_f _ _ _ rfl) ?_
    refine zw_iload_n 14 rfl dX5_putShade_13 rfl ?_
    refine zw_aload_n 15 rfl dX5_putShade_14 rfl ?_
    refine zw_geti 18 rfl dX5_putShade_15 fl_X5_15 (by first | assumption | exact zx_o0 | exact zx_o _ _ _ rfl) ?_
    refine zw_imul 19 rfl dX5_putShade_18 ?_
    refine zw_iload_n 20 rfl dX5_putShade_19 rfl ?_
    refine zw_iadd 21 rfl dX5_putShade_20 ?_
    refine zw_iload_n 22 rfl dX5_putShade_21 rfl ?_
    refine zw_iast 23 rfl dX5_putShade_22 (by first | assumption | exact zx_o0 | exact zx_o _ _ _ rfl) (by omega) (by omega) ?_
    exact zw_vretR dX5_putShade_23 rfl (by first | (rw [if_pos h_6]) | (rw [if_neg h_6]))
/-- how far from 0 -/
def zab (v : Int) : Int := if 0 ≤ v then v else -v
/-- shades are shades -/
def zSd (σ : zSt) (sa : Nat) (n : Int) : Prop := ∀ j : Nat, (j : Int) < n → 0 ≤ σ sa j ∧ σ sa j ≤ 255
theorem zDot_r {σ : zSt} {a sa : Nat} {x y : Int} (hw : zPW σ a) (hd : zSd σ sa (σ a 1 * σ a 2)) : 0 ≤ zDot σ a sa x y ∧ zDot σ a sa x y ≤ 255 := by
  unfold zDot
  split
  · rename_i h
    have := zz_ix h.1 h.2 hw.1.2 hw.2.2
    exact hd _ (by omega)
  · omega
theorem c_stepRight {G : zG} {S : zSh} {σ τ : zSt} {a sa : Nat} {x y : Int} (hp : zPic S a sa) (hw : zPW σ a) (hd : zSd σ sa (σ a 1 * σ a 2)) (hx : -2147483648 ≤ x ∧ x ≤ 2147483646) (hy : -2147483648 ≤ y ∧ y ≤ 2147483646) : zC G M_X5_stepRight [.ref a, vi x, vi y] (S, σ, τ) (zR (some (vi (if zHas σ a x y ∧ zHas σ a (x + 1) y then zab (zDot σ a sa x y - zDot σ a sa (x + 1) y) else -1))) (S, σ, τ)) := by
  have hp0 := hp
  have hw0 := hw
  obtain ⟨ha, hs, hsa, hne⟩ := hp
  obtain ⟨⟨w0, w1⟩, w2, w3⟩ := hw
  refine zC_of 0 rfl (Nat.le_of_ble_eq_true rfl) ?_
  have r1 := zDot_r (x := x) (y := y) hw0 hd
  have r2 := zDot_r (x := x + 1) (y := y) hw0 hd
  refine zw_aload_n 1 rfl dX5_stepRight_0 rfl ?_
  refine zw_iload_n 2 rfl dX5_stepRight_1 rfl ?_
  refine zw_iload_n 3 rfl dX5_stepRight_2 rfl ?_
  refine zw_cVi2 6 rfl dX5_stepRight_3 kX5_stepRight_37 (Nat.le_of_ble_eq_true rfl) (by first | assumption | exact zx_o0 | exact zx_o _ _ _ rfl) (c_contains hp0 hw0 (by omega) (by omega)) ?_
  refine zw_if_eqB 41 9 rfl dX5_stepRight_6 (by decide) (fun h_6 => ?_) (fun h_6 => ?_)
  · refine zw_iconst 42 rfl dX5_stepRight_41 ?_
    exact zw_iretR dX5_stepRight_42 rfl (by first | (rw [if_pos (And.intro h_6 h_17)]; rfl) | (rw [if_neg (fun h => h_6 h.1)]) | (rw [if_neg (fun h => h_17 h.2)])) rfl
  · refine zw_aload_n 10 rfl dX5_stepRight_9 rfl ?_
    refine zw_iload_n 11 rfl dX5_stepRight_10 rfl ?_
    refine zw_iconst 12 rfl dX5_stepRight_11 ?_
    refine zw_iadd 13 rfl dX5_stepRight_12 ?_
    refine zw_iload_n 14 rfl dX5_stepRight_13 rfl ?_
    refine zw_cVi2 17 rfl dX5_stepRight_14 kX5_stepRight_37 (Nat.le_of_ble_eq_true rfl) (by first | assumption | exact zx_o0 | exact zx_o _ _ _ rfl) (c_contains hp0 hw0 (by omega) (by omega)) ?_
    refine zw_if_eqB 41 20 rfl dX5_stepRight_17 (by decide) (fun h_17 => ?_) (fun h_17 => ?_)
    · refine zw_iconst 42 rfl dX5_stepRight_41 ?_
      exact zw_iretR dX5_stepRight_42 rfl (by first | (rw [if_pos (And.intro h_6 h_17)]; rfl) | (rw [if_neg (fun h => h_6 h.1)]) | (rw [if_neg (fun h => h_17 h.2)])) rfl
    · refine zw_aload_n 21 rfl dX5_stepRight_20 rfl ?_
      refine zw_iload_n 22 rfl dX5_stepRight_21 rfl ?_
      refine zw_iload_n 23 rfl dX5_stepRight_22 rfl ?_
      refine zw_cVi2 26 rfl dX5_stepRight_23 kX5_stepRight_41 (Nat.le_of_ble_eq_true rfl) (by first | assumption | exact zx_o0 | exact zx_o _ _ _ rfl) (c_shadeAt hp0 hw0 (by omega) (by omega)) ?_
      refine zw_aload_n 27 rfl dX5_stepRight_26 rfl ?_
      refine zw_iload_n 28 rfl dX5_stepRight_27 rfl ?_
      refine zw_iconst 29 rfl dX5_stepRight_28 ?_
      refine zw_iadd 30 rfl dX5_stepRight_29 ?_
      refine zw_iload_n 31 rfl dX5_stepRight_30 rfl ?_
      refine zw_cVi2 34 rfl dX5_stepRight_31 kX5_stepRight_41 (Nat.le_of_ble_eq_true rfl) (by first | assumption | exact zx_o0 | exact zx_o _ _ _ rfl) (c_shadeAt hp0 hw0 (by omega) (by omega)) ?_
      refine zw_isub 35 rfl dX5_stepRight_34 ?_
      refine zw_mabs 38 rfl dX5_stepRight_35 kmX5_44 ⟨Nat.le_of_ble_eq_true rfl, Nat.le_of_ble_eq_true rfl⟩ (by omega) ?_
      refine zw_goto 42 dX5_stepRight_38 (by decide) ?_
      exact zw_iretR dX5_stepRight_42 rfl (by first | (rw [if_pos (And.intro h_6 h_17)]; rfl) | (rw [if_neg (fun h => h_6 h.1)]) | (rw [if_neg (fun h => h_17 h.2)])) rfl
theorem c_stepDown {G : zG} {S : zSh} {σ τ : zSt} {a sa : Nat} {x y : Int} (hp : zPic S a sa) (hw : zPW σ a) (hd : zSd σ sa (σ a 1 * σ a 2)) (hx : -2147483648 ≤ x ∧ x ≤ 2147483646) (hy : -2147483648 ≤ y ∧ y ≤ 2147483646) : zC G M_X5_stepDown [.ref a, vi x, vi y] (S, σ, τ) (zR (some (vi (if zHas σ a x y ∧ zHas σ a x (y + 1) then zab (zDot σ a sa x y - zDot σ a sa x (y + 1)) else -1))) (S, σ, τ)) := by
  have hp0 := hp
  have hw0 := hw
  obtain ⟨ha, hs, hsa, hne⟩ := hp
  obtain ⟨⟨w0, w1⟩, w2, w3⟩ := hw
  refine zC_of 0 rfl (Nat.le_of_ble_eq_true rfl) ?_
  have r1 := zDot_r (x := x) (y := y) hw0 hd
  have r2 := zDot_r (x := x) (y := y + 1) hw0 hd
  refine zw_aload_n 1 rfl dX5_stepDown_0 rfl ?_
  refine zw_iload_n 2 rfl dX5_stepDown_1 rfl ?_
  refine zw_iload_n 3 rfl dX5_stepDown_2 rfl ?_
  refine zw_cVi2 6 rfl dX5_stepDown_3 kX5_stepDown_37 (Nat.le_of_ble_eq_true rfl) (by first | assumption | exact zx_o0 | exact zx_o _ _ _ rfl) (c_contains hp0 hw0 (by omega) (by omega)) ?_
  refine zw_if_eqB 41 9 rfl dX5_stepDown_6 (by decide) (fun h_6 => ?_) (fun h_6 => ?_)
  · refine zw_iconst 42 rfl dX5_stepDown_41 ?_
    exact zw_iretR dX5_stepDown_42 rfl (by first | (rw [if_pos (And.intro h_6 h_17)]; rfl) | (rw [if_neg (fun h => h_6 h.1)]) | (rw [if_neg (fun h => h_17 h.2)])) rfl
  · refine zw_aload_n 10 rfl dX5_stepDown_9 rfl ?_
    refine zw_iload_n 11 rfl dX5_stepDown_10 rfl ?_
    refine zw_iload_n 12 rfl dX5_stepDown_11 rfl ?_
    refine zw_iconst 13 rfl dX5_stepDown_12 ?_
    refine zw_iadd 14 rfl dX5_stepDown_13 ?_
    refine zw_cVi2 17 rfl dX5_stepDown_14 kX5_stepDown_37 (Nat.le_of_ble_eq_true rfl) (by first | assumption | exact zx_o0 | exact zx_o _ _ _ rfl) (c_contains hp0 hw0 (by omega) (by omega)) ?_
    refine zw_if_eqB 41 20 rfl dX5_stepDown_17 (by decide) (fun h_17 => ?_) (fun h_17 => ?_)
    · refine zw_iconst 42 rfl dX5_stepDown_41 ?_
      exact zw_iretR dX5_stepDown_42 rfl (by first | (rw [if_pos (And.intro h_6 h_17)]; rfl) | (rw [if_neg (fun h => h_6 h.1)]) | (rw [if_neg (fun h => h_17 h.2)])) rfl
    · refine zw_aload_n 21 rfl dX5_stepDown_20 rfl ?_
      refine zw_iload_n 22 rfl dX5_stepDown_21 rfl ?_
      refine zw_iload_n 23 rfl dX5_stepDown_22 rfl ?_
      refine zw_cVi2 26 rfl dX5_stepDown_23 kX5_stepDown_41 (Nat.le_of_ble_eq_true rfl) (by first | assumption | exact zx_o0 | exact zx_o _ _ _ rfl) (c_shadeAt hp0 hw0 (by omega) (by omega)) ?_
      refine zw_aload_n 27 rfl dX5_stepDown_26 rfl ?_
      refine zw_iload_n 28 rfl dX5_stepDown_27 rfl ?_
      refine zw_iload_n 29 rfl dX5_stepDown_28 rfl ?_
      refine zw_iconst 30 rfl dX5_stepDown_29 ?_
      refine zw_iadd 31 rfl dX5_stepDown_30 ?_
      refine zw_cVi2 34 rfl dX5_stepDown_31 kX5_stepDown_41 (Nat.le_of_ble_eq_true rfl) (by first | assumption | exact zx_o0 | exact zx_o _ _ _ rfl) (c_shadeAt hp0 hw0 (by omega) (by omega)) ?_
      refine zw_isub 35 rfl dX5_stepDown_34 ?_
      refine zw_mabs 38 rfl dX5_stepDown_35 kmX5_44 ⟨Nat.le_of_ble_eq_true rfl, Nat.le_of_ble_eq_true rfl⟩ (by omega) ?_
      refine zw_goto 42 dX5_stepDown_38 (by decide) ?_
      exact zw_iretR dX5_stepDown_42 rfl (by first | (rw [if_pos (And.intro h_6 h_17)]; rfl) | (rw [if_neg (fun h => h_6 h.1)]) | (rw [if_neg (fun h => h_17 h.2)])) rfl
