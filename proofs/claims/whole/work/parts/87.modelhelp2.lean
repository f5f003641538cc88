theorem m_puts {G : zG} {C : Nat} {σ τ : zSt} {p x y v : Int} (hp : 0 ≤ p ∧ p ≤ 7) (hx : 0 ≤ x ∧ x ≤ 15) (hy : 0 ≤ y ∧ y ≤ 11) : zC G M_X11_puts [.ref C, vi p, vi x, vi y, vi v] (zmS C, σ, τ) (zR none (zmS C, zu σ (C + 9) (194 * p.toNat + 2 + (16 * y + x).toNat) v, τ)) := by
  refine zC_of 0 rfl (Nat.le_of_ble_eq_true rfl) ?_
  refine zw_aload_n 1 rfl dX11_puts_0 rfl ?_
  refine zw_getr 4 rfl dX11_puts_1 fl_X11_38 (by first | assumption | exact zm_o0 | exact zm_o _ _ _ rfl) (by first | assumption | exact zm_f _ _ rfl) ?_
  refine zw_sipush 7 rfl dX11_puts_4 rfl ?_
  refine zw_iload_n 8 rfl dX11_puts_7 rfl ?_
  refine zw_imul 9 rfl dX11_puts_8 ?_
  refine zw_iconst 10 rfl dX11_puts_9 ?_
  refine zw_iadd 11 rfl dX11_puts_10 ?_
  refine zw_bipush 13 rfl dX11_puts_11 rfl ?_
  refine zw_iload_n 14 rfl dX11_puts_13 rfl ?_
  refine zw_imul 15 rfl dX11_puts_14 ?_
  refine zw_iadd 16 rfl dX11_puts_15 ?_
  refine zw_iload_n 17 rfl dX11_puts_16 rfl ?_
  refine zw_iadd 18 rfl dX11_puts_17 ?_
  refine zw_iload 20 rfl dX11_puts_18 rfl ?_
  refine zw_iast 21 rfl dX11_puts_20 (by first | assumption | exact zm_o0 | exact zm_o _ _ _ rfl) (by omega) (by omega) ?_
  exact zw_vretR dX11_puts_21 rfl (by rw [show (194 * p + 2 + 16 * y + x).toNat = 194 * p.toNat + 2 + (16 * y + x).toNat by omega])
theorem m_isPicture {G : zG} {C : Nat} {σ τ : zSt} {P : Nat → zPc} {p : Int} (h : mrP (σ (C + 9)) 0 P) (hp : -2147483648 ≤ p ∧ p ≤ 2147483647) : zC G M_X11_isPicture [.ref C, vi p] (zmS C, σ, τ) (zR (some (vi (zb (aPl p ∧ 0 < (P p.toNat).1)))) (zmS C, σ, τ)) := by
  have hh := h p.toNat
  rw [Nat.zero_add] at hh
  refine zC_of 0 rfl (Nat.le_of_ble_eq_true rfl) ?_
  refine zw_iload_n 1 rfl dX11_isPicture_0 rfl ?_
  refine zw_iconst 2 rfl dX11_isPicture_1 ?_
  refine zw_iconst 3 rfl dX11_isPicture_2 ?_
  refine zw_cSi3 6 rfl dX11_isPicture_3 kX11_isPicture_106 (Nat.le_of_ble_eq_true rfl) (m_in hp (by omega) (by omega)) ?_
  refine zw_if_eqB 21 9 rfl dX11_isPicture_6 (by decide) (fun h_6 => ?_) (fun h_6 => ?_)
  · refine zw_iconst 22 rfl dX11_isPicture_21 ?_
    exact zw_zretR dX11_isPicture_22 rfl (by omega) (by first | exact zb_f (fun q => h_6 q.1) | exact zb_f (fun q => by omega) | exact zb_t ⟨h_6, by omega⟩) rfl
  · have h1 := (hh (by omega)).1
    have h2 := (hh (by omega)).2.1
    refine zw_aload_n 10 rfl dX11_isPicture_9 rfl ?_
    refine zw_iload_n 11 rfl dX11_isPicture_10 rfl ?_
    refine zw_cVi1 14 rfl dX11_isPicture_11 kX11_isPicture_170 (Nat.le_of_ble_eq_true rfl) (by first | assumption | exact zm_o0 | exact zm_o _ _ _ rfl) (m_wide (by omega)) ?_
    rw [h1]
    refine zw_if_le 21 17 rfl dX11_isPicture_14 (by decide) (by omega) (fun h_14 => ?_) (fun h_14 => ?_)
    · refine zw_iconst 22 rfl dX11_isPicture_21 ?_
      exact zw_zretR dX11_isPicture_22 rfl (by omega) (by first | exact zb_f (fun q => h_6 q.1) | exact zb_f (fun q => by omega) | exact zb_t ⟨h_6, by omega⟩) rfl
    · refine zw_iconst 18 rfl dX11_isPicture_17 ?_
      refine zw_goto 22 dX11_isPicture_18 (by decide) ?_
      exact zw_zretR dX11_isPicture_22 rfl (by omega) (by first | exact zb_f (fun q => h_6 q.1) | exact zb_f (fun q => by omega) | exact zb_t ⟨h_6, by omega⟩) rfl
