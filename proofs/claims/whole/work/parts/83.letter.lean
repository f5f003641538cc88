/-! ===== letter, where there is one (the other end throws) ===== -/
abbrev aHasL (A : zA) (p k : Int) : Prop := (0 ≤ p ∧ p < (aN A).length) ∧ 0 ≤ k ∧ k < ((aN A).getD p.toNat []).length
def aLet (A : zA) (p k : Int) : Int := ((aN A).getD p.toNat []).getD k.toNat 0
theorem X_letter {G : zG} {B : Nat} {σ τ : zSt} {A : zA} {p k : Int} (h : zxR B σ τ A) (hp : -2147483648 ≤ p ∧ p ≤ 2147483647) (hk : -2147483648 ≤ k ∧ k ≤ 2147483647) (hl : aHasL A p k) : zC G M_X10_letter [.ref B, vi p, vi k] (zxS B, σ, τ) (zR (some (vi (aLet A p k))) (zxS B, σ, τ)) := by
  have hn : xNm σ (B + 44) (aN A) := h.2.2.2.2.1
  refine zC_of 0 rfl (Nat.le_of_ble_eq_true rfl) ?_
  refine zw_aload_n 1 rfl dX10_letter_0 rfl ?_
  refine zw_getr 4 rfl dX10_letter_1 fl_X10_47 (by first | assumption | exact zx_o0 | exact zx_o _ _ _ rfl) (by first | assumption | exact zx_f0 _ _ rfl | exact zx_f _ _ _ rfl) ?_
  refine zw_iload_n 5 rfl dX10_letter_4 rfl ?_
  refine zw_iload_n 6 rfl dX10_letter_5 rfl ?_
  refine zw_cVi2 9 rfl dX10_letter_6 kX10_letter_391 (Nat.le_of_ble_eq_true rfl) (by first | assumption | exact zx_o0 | exact zx_o _ _ _ rfl) (c_hasLetter zx_nm hn hp hk) ?_
  refine zw_if_neB 23 12 rfl dX10_letter_9 (by decide) (fun h_9 => ?_) (fun h_9 => ?_)
  · refine zw_aload_n 24 rfl dX10_letter_23 rfl ?_
    refine zw_getr 27 rfl dX10_letter_24 fl_X10_47 (by first | assumption | exact zx_o0 | exact zx_o _ _ _ rfl) (by first | assumption | exact zx_f0 _ _ rfl | exact zx_f _ _ _ rfl) ?_
    refine zw_iload_n 28 rfl dX10_letter_27 rfl ?_
    refine zw_iload_n 29 rfl dX10_letter_28 rfl ?_
    refine zw_cVi2 32 rfl dX10_letter_29 kX10_letter_401 (Nat.le_of_ble_eq_true rfl) (by first | assumption | exact zx_o0 | exact zx_o _ _ _ rfl) (c_letterOf zx_nm hn hp hk) ?_
    exact zw_iretR dX10_letter_32 rfl (by rw [if_pos hl]; rfl) rfl
  · exact absurd hl h_9
