/-! ===== the model's helpers ===== -/
theorem m_in {G : zG} {S : zSh} {σ τ : zSt} {v a b : Int} (hv : -2147483648 ≤ v ∧ v ≤ 2147483647) (ha : -2147483648 ≤ a ∧ a ≤ 2147483647) (hb : -2147483648 ≤ b ∧ b ≤ 2147483647) : zC G M_X11_in [vi v, vi a, vi b] (S, σ, τ) (zR (some (vi (zb (a ≤ v ∧ v ≤ b)))) (S, σ, τ)) := by
  refine zC_of 0 rfl (Nat.le_of_ble_eq_true rfl) ?_
  refine zw_iload_n 1 rfl dX11_in_0 rfl ?_
  refine zw_iload_n 2 rfl dX11_in_1 rfl ?_
  refine zw_icmp_lt 14 5 rfl dX11_in_2 (by decide) (by omega) (by omega) (fun h_2 => ?_) (fun h_2 => ?_)
  · refine zw_iconst 15 rfl dX11_in_14 ?_
    exact zw_zretR dX11_in_15 rfl (by omega) (by first | exact zb_t (by omega) | exact zb_f (by omega)) rfl
  · refine zw_iload_n 6 rfl dX11_in_5 rfl ?_
    refine zw_iload_n 7 rfl dX11_in_6 rfl ?_
    refine zw_icmp_gt 14 10 rfl dX11_in_7 (by decide) (by omega) (by omega) (fun h_7 => ?_) (fun h_7 => ?_)
    · refine zw_iconst 15 rfl dX11_in_14 ?_
      exact zw_zretR dX11_in_15 rfl (by omega) (by first | exact zb_t (by omega) | exact zb_f (by omega)) rfl
    · refine zw_iconst 11 rfl dX11_in_10 ?_
      refine zw_goto 15 dX11_in_11 (by decide) ?_
      exact zw_zretR dX11_in_15 rfl (by omega) (by first | exact zb_t (by omega) | exact zb_f (by omega)) rfl
theorem m_refused {G : zG} {C : Nat} {σ τ : zSt} {v : Int} : zC G M_X11_refused [.ref C, vi v] (zmS C, σ, τ) (zR (some (vi (-1))) (zmS C, zu (zu σ C 1 v) C 2 (-1), τ)) := by
  refine zC_of 0 rfl (Nat.le_of_ble_eq_true rfl) ?_
  refine zw_aload_n 1 rfl dX11_refused_0 rfl ?_
  refine zw_iload_n 2 rfl dX11_refused_1 rfl ?_
  refine zw_puti 5 rfl dX11_refused_2 fp_X11_88 (by first | assumption | exact zm_o0 | exact zm_o _ _ _ rfl) ?_
  refine zw_aload_n 6 rfl dX11_refused_5 rfl ?_
  refine zw_iconst 7 rfl dX11_refused_6 ?_
  refine zw_puti 10 rfl dX11_refused_7 fp_X11_9 (by first | assumption | exact zm_o0 | exact zm_o _ _ _ rfl) ?_
  refine zw_iconst 11 rfl dX11_refused_10 ?_
  exact zw_iretR dX11_refused_11 rfl rfl rfl
theorem m_good {G : zG} {C : Nat} {σ τ : zSt} {v : Int} : zC G M_X11_good [.ref C, vi v] (zmS C, σ, τ) (zR (some (vi v)) (zmS C, zu (zu σ C 1 0) C 2 (-1), τ)) := by
  refine zC_of 0 rfl (Nat.le_of_ble_eq_true rfl) ?_
  refine zw_aload_n 1 rfl dX11_good_0 rfl ?_
  refine zw_iconst 2 rfl dX11_good_1 ?_
  refine zw_puti 5 rfl dX11_good_2 fp_X11_88 (by first | assumption | exact zm_o0 | exact zm_o _ _ _ rfl) ?_
  refine zw_aload_n 6 rfl dX11_good_5 rfl ?_
  refine zw_iconst 7 rfl dX11_good_6 ?_
  refine zw_puti 10 rfl dX11_good_7 fp_X11_9 (by first | assumption | exact zm_o0 | exact zm_o _ _ _ rfl) ?_
  refine zw_iload_n 11 rfl dX11_good_10 rfl ?_
  exact zw_iretR dX11_good_11 rfl rfl rfl
theorem m_says {G : zG} {C : Nat} {σ τ : zSt} {v : Int} : zC G M_X11_says [.ref C, vl v] (zmS C, σ, τ) (zR (some (vl v)) (zmS C, zu (zu σ C 1 0) C 2 (-1), τ)) := by
  refine zC_of 0 rfl (Nat.le_of_ble_eq_true rfl) ?_
  refine zw_aload_n 1 rfl dX11_says_0 rfl ?_
  refine zw_iconst 2 rfl dX11_says_1 ?_
  refine zw_puti 5 rfl dX11_says_2 fp_X11_88 (by first | assumption | exact zm_o0 | exact zm_o _ _ _ rfl) ?_
  refine zw_aload_n 6 rfl dX11_says_5 rfl ?_
  refine zw_iconst 7 rfl dX11_says_6 ?_
  refine zw_puti 10 rfl dX11_says_7 fp_X11_9 (by first | assumption | exact zm_o0 | exact zm_o _ _ _ rfl) ?_
  refine zw_lload_n 11 rfl dX11_says_10 rfl ?_
  exact zw_lretR dX11_says_11 rfl rfl rfl
theorem m_granted {G : zG} {C : Nat} {σ τ : zSt} {v : Int} (hv : -2147483648 ≤ v ∧ v ≤ 2147483647) : zC G M_X11_granted [.ref C, vi v] (zmS C, σ, τ) (zR (some (vi (zb (v = 0)))) (zmS C, zu (zu σ C 1 v) C 2 (-1), τ)) := by
  refine zC_of 0 rfl (Nat.le_of_ble_eq_true rfl) ?_
  refine zw_aload_n 1 rfl dX11_granted_0 rfl ?_
  refine zw_iload_n 2 rfl dX11_granted_1 rfl ?_
  refine zw_puti 5 rfl dX11_granted_2 fp_X11_88 (by first | assumption | exact zm_o0 | exact zm_o _ _ _ rfl) ?_
  refine zw_aload_n 6 rfl dX11_granted_5 rfl ?_
  refine zw_iconst 7 rfl dX11_granted_6 ?_
  refine zw_puti 10 rfl dX11_granted_7 fp_X11_9 (by first | assumption | exact zm_o0 | exact zm_o _ _ _ rfl) ?_
  refine zw_iload_n 11 rfl dX11_granted_10 rfl ?_
  refine zw_if_ne 18 14 rfl dX11_granted_11 (by decide) (by omega) (fun h_11 => ?_) (fun h_11 => ?_)
  · refine zw_iconst 19 rfl dX11_granted_18 ?_
    exact zw_zretR dX11_granted_19 rfl (by omega) (by first | exact zb_t h_11 | exact zb_f h_11) rfl
  · refine zw_iconst 15 rfl dX11_granted_14 ?_
    refine zw_goto 19 dX11_granted_15 (by decide) ?_
    exact zw_zretR dX11_granted_19 rfl (by omega) (by first | exact zb_t h_11 | exact zb_f h_11) rfl
theorem m_wide {G : zG} {C : Nat} {σ τ : zSt} {p : Int} (hp : 0 ≤ p ∧ p ≤ 7) : zC G M_X11_wide [.ref C, vi p] (zmS C, σ, τ) (zR (some (vi (σ (C + 9) (194 * p.toNat)))) (zmS C, σ, τ)) := by
  refine zC_of 0 rfl (Nat.le_of_ble_eq_true rfl) ?_
  refine zw_aload_n 1 rfl dX11_wide_0 rfl ?_
  refine zw_getr 4 rfl dX11_wide_1 fl_X11_38 (by first | assumption | exact zm_o0 | exact zm_o _ _ _ rfl) (by first | assumption | exact zm_f _ _ rfl) ?_
  refine zw_sipush 7 rfl dX11_wide_4 rfl ?_
  refine zw_iload_n 8 rfl dX11_wide_7 rfl ?_
  refine zw_imul 9 rfl dX11_wide_8 ?_
  refine zw_iald 10 rfl dX11_wide_9 (by first | assumption | exact zm_o0 | exact zm_o _ _ _ rfl) (by omega) (by omega) ?_
  exact zw_iretR dX11_wide_10 rfl (by rw [show (194 * p).toNat = 194 * p.toNat by omega]) rfl
theorem m_high {G : zG} {C : Nat} {σ τ : zSt} {p : Int} (hp : 0 ≤ p ∧ p ≤ 7) : zC G M_X11_high [.ref C, vi p] (zmS C, σ, τ) (zR (some (vi (σ (C + 9) (194 * p.toNat + 1)))) (zmS C, σ, τ)) := by
  refine zC_of 0 rfl (Nat.le_of_ble_eq_true rfl) ?_
  refine zw_aload_n 1 rfl dX11_high_0 rfl ?_
  refine zw_getr 4 rfl dX11_high_1 fl_X11_38 (by first | assumption | exact zm_o0 | exact zm_o _ _ _ rfl) (by first | assumption | exact zm_f _ _ rfl) ?_
  refine zw_sipush 7 rfl dX11_high_4 rfl ?_
  refine zw_iload_n 8 rfl dX11_high_7 rfl ?_
  refine zw_imul 9 rfl dX11_high_8 ?_
  refine zw_iconst 10 rfl dX11_high_9 ?_
  refine zw_iadd 11 rfl dX11_high_10 ?_
  refine zw_iald 12 rfl dX11_high_11 (by first | assumption | exact zm_o0 | exact zm_o _ _ _ rfl) (by omega) (by omega) ?_
  exact zw_iretR dX11_high_12 rfl (by rw [show (194 * p + 1).toNat = 194 * p.toNat + 1 by omega]) rfl
theorem m_dotOf {G : zG} {C : Nat} {σ τ : zSt} {p x y : Int} (hp : 0 ≤ p ∧ p ≤ 7) (hx : 0 ≤ x ∧ x ≤ 15) (hy : 0 ≤ y ∧ y ≤ 11) : zC G M_X11_dotOf [.ref C, vi p, vi x, vi y] (zmS C, σ, τ) (zR (some (vi (σ (C + 9) (194 * p.toNat + 2 + (16 * y + x).toNat)))) (zmS C, σ, τ)) := by
  refine zC_of 0 rfl (Nat.le_of_ble_eq_true rfl) ?_
  refine zw_aload_n 1 rfl dX11_dotOf_0 rfl ?_
  refine zw_getr 4 rfl dX11_dotOf_1 fl_X11_38 (by first | assumption | exact zm_o0 | exact zm_o _ _ _ rfl) (by first | assumption | exact zm_f _ _ rfl) ?_
  refine zw_sipush 7 rfl dX11_dotOf_4 rfl ?_
  refine zw_iload_n 8 rfl dX11_dotOf_7 rfl ?_
  refine zw_imul 9 rfl dX11_dotOf_8 ?_
  refine zw_iconst 10 rfl dX11_dotOf_9 ?_
  refine zw_iadd 11 rfl dX11_dotOf_10 ?_
  refine zw_bipush 13 rfl dX11_dotOf_11 rfl ?_
  refine zw_iload_n 14 rfl dX11_dotOf_13 rfl ?_
  refine zw_imul 15 rfl dX11_dotOf_14 ?_
  refine zw_iadd 16 rfl dX11_dotOf_15 ?_
  refine zw_iload_n 17 rfl dX11_dotOf_16 rfl ?_
  refine zw_iadd 18 rfl dX11_dotOf_17 ?_
  refine zw_iald 19 rfl dX11_dotOf_18 (by first | assumption | exact zm_o0 | exact zm_o _ _ _ rfl) (by omega) (by omega) ?_
  exact zw_iretR dX11_dotOf_19 rfl (by rw [show (194 * p + 2 + 16 * y + x).toNat = 194 * p.toNat + 2 + (16 * y + x).toNat by omega]) rfl
