def zRD (g : zGr) (x y sh : Int) : Int := (Nat.gcd (zRS g x y sh).toNat (zRW g x y sh).toNat : Nat)
def sp_read (A : zA) (x y sh what : Int) : Int × zA := aAns (if aMade A ∧ aIn (aGG A).1 x y then if 0 ≤ what ∧ what ≤ 1 then if 0 ≤ sh ∧ sh ≤ 255 then if zRW (aGG A) x y sh ≠ 0 then 0 else 5 else 2 else 1 else 1) (-1) A ((if what = 0 then zRS (aGG A) x y sh else zRW (aGG A) x y sh) / zRD (aGG A) x y sh, A)
theorem X_read {G : zG} {B : Nat} {σ τ : zSt} {A : zA} {x y sh what : Int} (h : zxR B σ τ A) (hx : -2147483648 ≤ x ∧ x ≤ 2147483647) (hy : -2147483648 ≤ y ∧ y ≤ 2147483647) (hsh : -2147483648 ≤ sh ∧ sh ≤ 2147483647) (hwhat : -2147483648 ≤ what ∧ what ≤ 2147483647) : zC G M_X10_read [.ref B, vi x, vi y, vi sh, vi what] (zxS B, σ, τ) (xQl B (sp_read A x y sh what)) := by
  refine zC_of 2 rfl (Nat.le_of_ble_eq_true rfl) ?_
  have body : (aMade A ∧ aIn (aGG A).1 x y) → (0 ≤ what ∧ what ≤ 1) → (0 ≤ sh ∧ sh ≤ 255) → zW G M_X10_read (xQl B (sp_read A x y sh what)) 49 [some (.ref B), some (vi x), some (vi y), some (vi sh), some (vi what), none, none] [] (zxS B, zu σ B 17 0, τ) := by
    intro hc1 hc2 hc3
    have hL := (h.made hc1.1).1.scr (xScr.z (v := 0))
    have hr := zRW_r hL.1 x y sh
    unfold sp_read
    rw [show (if aMade A ∧ aIn (aGG A).1 x y then if 0 ≤ what ∧ what ≤ 1 then if 0 ≤ sh ∧ sh ≤ 255 then if zRW (aGG A) x y sh ≠ 0 then (0 : Int) else 5 else 2 else 1 else 1) = if zRW (aGG A) x y sh ≠ 0 then 0 else 5 by rw [if_pos hc1, if_pos hc2, if_pos hc3]]
    obtain ⟨a, ha⟩ : ∃ a : Nat, zRS (aGG A) x y sh = a := ⟨_, (Int.toNat_of_nonneg hr.2.1).symm⟩
    obtain ⟨b, hb⟩ : ∃ b : Nat, zRW (aGG A) x y sh = b := ⟨_, (Int.toNat_of_nonneg hr.1.1).symm⟩
    have hrd : zRD (aGG A) x y sh = (Nat.gcd a b : Nat) := by unfold zRD; rw [ha, hb, Int.toNat_natCast, Int.toNat_natCast]
    rw [ha, hb] at hr
    rw [ha, hb, hrd]
    have hgl : 0 < b → 0 < Nat.gcd a b ∧ Nat.gcd a b ≤ b := fun q => ⟨Nat.gcd_pos_of_pos_right _ q, Nat.le_of_dvd q (Nat.gcd_dvd_right _ _)⟩
    have hg0 : b = 0 → Nat.gcd a b = a := fun q => by rw [q, Nat.gcd_zero_right]
    generalize Nat.gcd a b = c at hrd hgl hg0 ⊢
    have K : ∀ (τ2 : zSt) (v : Int), (∀ c, c ≠ B + 47 → τ2 c = τ c) → τ2 (B + 47) 7 = b → τ2 (B + 47) 8 = a → v = (if (b : Int) ≠ 0 then 0 else 5) → zW G M_X10_read (xQl B (aAns (if (b : Int) ≠ 0 then 0 else 5) (-1) A ((if what = 0 then (a : Int) else b) / c, A))) 103 [some (.ref B), some (vi x), some (vi y), some (vi sh), some (vi what), some (vl c), none] [vi v, .ref B] (zxS B, zu σ B 17 0, τ2) := by
      intro τ2 v f1 f2 f3 hv
      refine zw_cVi1 106 rfl dX10_read_103 kX10_read_105 (Nat.le_of_ble_eq_true rfl) (by first | assumption | exact zx_o0 | exact zx_o _ _ _ rfl) (c_refused (by rw [hv]; split <;> omega)) ?_
      refine zw_if_eqB 113 109 rfl dX10_read_106 (by decide) (fun h_106 => ?_) (fun h_106 => ?_)
      · have hb0 : 0 < b := Nat.pos_of_ne_zero (fun q => by rw [q] at hv; simp at hv; omega)
        have hgl1 := hgl hb0
        rw [if_pos (by omega)] at hv
        subst hv
        refine zw_iload 115 rfl dX10_read_113 rfl ?_
        refine zw_if_ne 128 118 rfl dX10_read_115 (by decide) (by omega) (fun h_115 => ?_) (fun h_115 => ?_)
        · refine zw_aload_n 129 rfl dX10_read_128 rfl ?_
          refine zw_getr 132 rfl dX10_read_129 fl_X10_54 (by first | assumption | exact zx_o0 | exact zx_o _ _ _ rfl) (by first | assumption | exact zx_f0 _ _ rfl | exact zx_f _ _ _ rfl) ?_
          refine zw_getl 135 rfl dX10_read_132 fl_X10_283 (by first | assumption | exact zx_o0 | exact zx_o _ _ _ rfl) ?_
          first | rw [f3] | rw [f2]
          refine zw_lload 137 rfl dX10_read_135 rfl ?_
          refine zw_ldiv 138 rfl dX10_read_137 (by omega) (by omega) ?_
          exact zw_lret (st := []) dX10_read_138 rfl (xReadl h (if_pos (by omega)) (xScr.z.tr xScr.z) (f1 _ (by omega)) (zu_eq _ _ _ _) (by first | rw [if_pos h_115] | rw [if_neg h_115]) rfl)
        · refine zw_aload_n 119 rfl dX10_read_118 rfl ?_
          refine zw_getr 122 rfl dX10_read_119 fl_X10_54 (by first | assumption | exact zx_o0 | exact zx_o _ _ _ rfl) (by first | assumption | exact zx_f0 _ _ rfl | exact zx_f _ _ _ rfl) ?_
          skip
          refine zw_getl 125 rfl dX10_read_122 fl_X10_279 (by first | assumption | exact zx_o0 | exact zx_o _ _ _ rfl) ?_
          refine zw_goto 135 dX10_read_125 (by decide) ?_
          first | rw [f3] | rw [f2]
          refine zw_lload 137 rfl dX10_read_135 rfl ?_
          refine zw_ldiv 138 rfl dX10_read_137 (by omega) (by omega) ?_
          exact zw_lret (st := []) dX10_read_138 rfl (xReadl h (if_pos (by omega)) (xScr.z.tr xScr.z) (f1 _ (by omega)) (zu_eq _ _ _ _) (by first | rw [if_pos h_115] | rw [if_neg h_115]) rfl)
      · refine zw_ldc2_w 112 rfl dX10_read_109 kX10_255 ?_
        have hb0 : (b : Int) = 0 := Decidable.byContradiction fun q => by rw [if_pos q] at hv; omega
        rw [if_neg (fun q => q hb0)] at hv ⊢
        subst hv
        exact zw_lret (st := []) dX10_read_112 rfl ⟨rfl, _, _, rfl, h.set (xScr.z.tr xScr.z) (f1 _ (by omega)) (zu_eq _ _ _ _) (by omega) (by omega)⟩
    refine zw_aload_n 50 rfl dX10_read_49 rfl ?_
    refine zw_getr 53 rfl dX10_read_50 fl_X10_54 (by first | assumption | exact zx_o0 | exact zx_o _ _ _ rfl) (by first | assumption | exact zx_f0 _ _ rfl | exact zx_f _ _ _ rfl) ?_
    refine zw_iload_n 54 rfl dX10_read_53 rfl ?_
    refine zw_iload_n 55 rfl dX10_read_54 rfl ?_
    refine zw_iload_n 56 rfl dX10_read_55 rfl ?_
    refine zw_cVr3 59 rfl dX10_read_56 kX10_read_276 (Nat.le_of_ble_eq_true rfl) (by first | assumption | exact zx_o0 | exact zx_o _ _ _ rfl) (c_gather zx_lat hL hc1.2 hc3) ?_
    rintro _ _ ⟨rfl, τ2, rfl, f1, f2, f3⟩
    rw [hb] at f2
    rw [ha] at f3
    have hcd : zC G M_X10_commonDivisor [vl a, vl b] (zxS B, zu σ B 17 0, τ2) (zR (some (vl (c : Nat))) (zxS B, zu σ B 17 0, τ2)) := by
      have : (c : Int) = (Nat.gcd a b : Nat) := by
        rw [← hrd]; unfold zRD; rw [ha, hb, Int.toNat_natCast, Int.toNat_natCast]
      rw [this]
      exact c_commonDivisor (by omega) (by omega)
    refine zw_aload_n 60 rfl dX10_read_59 rfl ?_
    refine zw_getr 63 rfl dX10_read_60 fl_X10_54 (by first | assumption | exact zx_o0 | exact zx_o _ _ _ rfl) (by first | assumption | exact zx_f0 _ _ rfl | exact zx_f _ _ _ rfl) ?_
    refine zw_getl 66 rfl dX10_read_63 fl_X10_279 (by first | assumption | exact zx_o0 | exact zx_o _ _ _ rfl) ?_
    rw [f3]
    refine zw_aload_n 67 rfl dX10_read_66 rfl ?_
    refine zw_getr 70 rfl dX10_read_67 fl_X10_54 (by first | assumption | exact zx_o0 | exact zx_o _ _ _ rfl) (by first | assumption | exact zx_f0 _ _ rfl | exact zx_f _ _ _ rfl) ?_
    refine zw_getl 73 rfl dX10_read_70 fl_X10_283 (by first | assumption | exact zx_o0 | exact zx_o _ _ _ rfl) ?_
    rw [f2]
    refine zw_cSi2 76 rfl dX10_read_73 kX10_read_286 (Nat.le_of_ble_eq_true rfl) hcd ?_
    refine zw_lstore 78 rfl dX10_read_76 (Nat.le_of_ble_eq_true rfl) rfl ?_
    refine zw_aload_n 79 rfl dX10_read_78 rfl ?_
    refine zw_aload_n 80 rfl dX10_read_79 rfl ?_
    refine zw_getr 83 rfl dX10_read_80 fl_X10_54 (by first | assumption | exact zx_o0 | exact zx_o _ _ _ rfl) (by first | assumption | exact zx_f0 _ _ rfl | exact zx_f _ _ _ rfl) ?_
    refine zw_getl 86 rfl dX10_read_83 fl_X10_283 (by first | assumption | exact zx_o0 | exact zx_o _ _ _ rfl) ?_
    rw [f2]
    refine zw_lconst 87 rfl dX10_read_86 ?_
    refine zw_lcmp 88 rfl dX10_read_87 (by omega) (by omega) ?_
    refine zw_if_eq 98 91 rfl dX10_read_88 (by decide) (by (repeat' split) <;> omega) (fun h_88 => ?_) (fun h_88 => ?_)
    · refine zw_iconst 99 rfl dX10_read_98 ?_
      refine zw_goto 103 dX10_read_99 (by decide) ?_
      exact K τ2 _ f1 f2 f3 (by first | (rw [if_pos (by revert h_88; (repeat' split) <;> omega)]; done) | (rw [if_neg (by have hbz : (b : Int) = 0 := by { revert h_88; (repeat' split) <;> omega }; exact fun q => q hbz)]; done) | (exfalso; have hbp : 0 < b := by { revert h_88; (repeat' split) <;> omega }; have := hgl hbp; revert h_95; (repeat' split) <;> omega))
    · refine zw_lload 93 rfl dX10_read_91 rfl ?_
      refine zw_lconst 94 rfl dX10_read_93 ?_
      refine zw_lcmp 95 rfl dX10_read_94 (by omega) (by omega) ?_
      refine zw_if_gt 102 98 rfl dX10_read_95 (by decide) (by (repeat' split) <;> omega) (fun h_95 => ?_) (fun h_95 => ?_)
      · refine zw_iconst 103 rfl dX10_read_102 ?_
        exact K τ2 _ f1 f2 f3 (by first | (rw [if_pos (by revert h_88; (repeat' split) <;> omega)]; done) | (rw [if_neg (by have hbz : (b : Int) = 0 := by { revert h_88; (repeat' split) <;> omega }; exact fun q => q hbz)]; done) | (exfalso; have hbp : 0 < b := by { revert h_88; (repeat' split) <;> omega }; have := hgl hbp; revert h_95; (repeat' split) <;> omega))
      · refine zw_iconst 99 rfl dX10_read_98 ?_
        refine zw_goto 103 dX10_read_99 (by decide) ?_
        exact K τ2 _ f1 f2 f3 (by first | (rw [if_pos (by revert h_88; (repeat' split) <;> omega)]; done) | (rw [if_neg (by have hbz : (b : Int) = 0 := by { revert h_88; (repeat' split) <;> omega }; exact fun q => q hbz)]; done) | (exfalso; have hbp : 0 < b := by { revert h_88; (repeat' split) <;> omega }; have := hgl hbp; revert h_95; (repeat' split) <;> omega))
  have J : ∀ v : Int, v = (if aMade A ∧ aIn (aGG A).1 x y then if 0 ≤ what ∧ what ≤ 1 then if 0 ≤ sh ∧ sh ≤ 255 then 0 else 2 else 1 else 1) → zW G M_X10_read (xQl B (sp_read A x y sh what)) 39 [some (.ref B), some (vi x), some (vi y), some (vi sh), some (vi what), none, none] [vi v, .ref B] (zxS B, σ, τ) := by
    intro v hv

    refine zw_cVi1 42 rfl dX10_read_39 kX10_read_105 (Nat.le_of_ble_eq_true rfl) (by first | assumption | exact zx_o0 | exact zx_o _ _ _ rfl) (c_refused (by rw [hv]; (repeat' split) <;> omega)) ?_
    refine zw_if_eqB 49 45 rfl dX10_read_42 (by decide) (fun h_42 => ?_) (fun h_42 => ?_)
    · have hc1 : aMade A ∧ aIn (aGG A).1 x y := Decidable.byContradiction fun q => by rw [if_neg q] at hv; (try split at hv) <;> omega
      rw [if_pos hc1] at hv
      have hc2 : 0 ≤ what ∧ what ≤ 1 := Decidable.byContradiction fun q => by rw [if_neg q] at hv; (try split at hv) <;> omega
      rw [if_pos hc2] at hv
      have hc3 : 0 ≤ sh ∧ sh ≤ 255 := Decidable.byContradiction fun q => by rw [if_neg q] at hv; (try split at hv) <;> omega
      rw [if_pos hc3] at hv
      subst hv
      exact body hc1 hc2 hc3
    · refine zw_ldc2_w 48 rfl dX10_read_45 kX10_255 ?_
      refine zw_lret (st := []) dX10_read_48 rfl ?_
      have e : (if aMade A ∧ aIn (aGG A).1 x y then if 0 ≤ what ∧ what ≤ 1 then if 0 ≤ sh ∧ sh ≤ 255 then if zRW (aGG A) x y sh ≠ 0 then (0 : Int) else 5 else 2 else 1 else 1) = v := by
        rw [hv]
        rw [hv] at h_42
        (repeat' split) <;> first | rfl | (exfalso; simp_all)
      unfold sp_read
      rw [e]
      exact xRefl h h_42 (by rw [hv]; (repeat' split) <;> omega)
  refine zw_aload_n 1 rfl dX10_read_0 rfl ?_
  refine zw_aload_n 2 rfl dX10_read_1 rfl ?_
  refine zw_getr 5 rfl dX10_read_2 fl_X10_54 (by first | assumption | exact zx_o0 | exact zx_o _ _ _ rfl) (by first | assumption | exact zx_f0 _ _ rfl | exact zx_f _ _ _ rfl) ?_
  refine zw_iload_n 6 rfl dX10_read_5 rfl ?_
  refine zw_iload_n 7 rfl dX10_read_6 rfl ?_
  refine zw_cVi2 10 rfl dX10_read_7 kX10_read_274 (Nat.le_of_ble_eq_true rfl) (by first | assumption | exact zx_o0 | exact zx_o _ _ _ rfl) (c_dotL h hx hy) ?_
  refine zw_if_eqB 23 13 rfl dX10_read_10 (by decide) (fun h_10 => ?_) (fun h_10 => ?_)
  · refine zw_iconst 24 rfl dX10_read_23 ?_
    refine zw_goto 39 dX10_read_24 (by decide) ?_
    exact J _ (by simp only [if_neg h_10])
  · refine zw_iload 15 rfl dX10_read_13 rfl ?_
    refine zw_iconst 16 rfl dX10_read_15 ?_
    refine zw_iconst 17 rfl dX10_read_16 ?_
    refine zw_cSi3 20 rfl dX10_read_17 kX10_read_101 (Nat.le_of_ble_eq_true rfl) (c_within (by omega) (by omega) (by omega)) ?_
    refine zw_if_neB 27 23 rfl dX10_read_20 (by decide) (fun h_20 => ?_) (fun h_20 => ?_)
    · refine zw_iload_n 28 rfl dX10_read_27 rfl ?_
      refine zw_cSi1 31 rfl dX10_read_28 kX10_read_178 (Nat.le_of_ble_eq_true rfl) (c_isShade hsh) ?_
      refine zw_if_neB 38 34 rfl dX10_read_31 (by decide) (fun h_31 => ?_) (fun h_31 => ?_)
      · refine zw_iconst 39 rfl dX10_read_38 ?_
        exact J _ (by simp only [if_pos h_10, if_pos h_20, if_pos h_31])
      · refine zw_iconst 35 rfl dX10_read_34 ?_
        refine zw_goto 39 dX10_read_35 (by decide) ?_
        exact J _ (by simp only [if_pos h_10, if_pos h_20, if_neg h_31])
    · refine zw_iconst 24 rfl dX10_read_23 ?_
      refine zw_goto 39 dX10_read_24 (by decide) ?_
      exact J _ (by simp only [if_pos h_10, if_neg h_20])
