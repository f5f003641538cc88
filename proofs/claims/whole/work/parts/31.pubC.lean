theorem zxR.p {B : Nat} {σ τ : zSt} {A : zA} (h : zxR B σ τ A) : xrP B σ A.1 := h.1
theorem zxR.hs {B : Nat} {σ τ : zSt} {A : zA} (h : zxR B σ τ A) : xrH B σ A.1 A.2.1 := h.2.1
/-! ===== part ===== -/
theorem X_part {G : zG} {B : Nat} {σ τ : zSt} {A : zA} {to of x y w hh : Int} (h : zxR B σ τ A) (hto : -2147483648 ≤ to ∧ to ≤ 2147483647) (hof : -2147483648 ≤ of ∧ of ≤ 2147483647) (hx : -2147483648 ≤ x ∧ x ≤ 2147483647) (hy : -2147483648 ≤ y ∧ y ≤ 2147483647) (hw : -2147483648 ≤ w ∧ w ≤ 2147483647) (hhh : -2147483648 ≤ hh ∧ hh ≤ 2147483647) : zC G M_X10_part [.ref B, vi to, vi of, vi x, vi y, vi w, vi hh] (zxS B, σ, τ) (xQ B (sp_part A to of x y w hh)) := by
  refine zC_of 3 rfl (Nat.le_of_ble_eq_true rfl) ?_
  have body : aPl to → aDot A of x y → (1 ≤ w ∧ w ≤ (A.1 of.toNat).1 - x) → (1 ≤ hh ∧ hh ≤ (A.1 of.toNat).2.1 - y) → zW G M_X10_part (xQ B (sp_part A to of x y w hh)) 77 [some (.ref B), some (vi to), some (vi of), some (vi x), some (vi y), some (vi w), some (vi hh), none, none, none] [] (zxS B, zu σ B 17 0, τ) := by
    intro hc1 hc2 hc3 hc4
    have hwh := (h.p of.toNat (by omega)).wh hc2.1.2
    have hdr := ((h.p of.toNat (by omega)).2.2 hc2.1.2).2.2
    generalize hσ1 : zu σ B 17 0 = σ1
    have h17 : σ1 B 17 = 0 := by rw [← hσ1]; exact zu_eq _ _ _ _
    have hs1 : xScr B σ σ1 := by rw [← hσ1]; exact xScr.z
    generalize hF : (fun a b : Int => (A.1 of.toNat).2.2 (x + a) (y + b)) = F
    have hF' : ∀ a b, (A.1 of.toNat).2.2 (x + a) (y + b) = F a b := fun a b => by rw [← hF]
    have outer : ∀ (fu : Nat) (j : Int) (σs : zSt), 0 ≤ j ∧ j ≤ hh → hh - j < fu → xLI B σ1 (w) (hh) F (j * (w)) σs → zW G M_X10_part (xQ B (sp_part A to of x y w hh)) 99 [some (.ref B), some (vi to), some (vi of), some (vi x), some (vi y), some (vi w), some (vi hh), some (.ref (zpa B of.toNat)), some (vi j), none] [] (zxS B, σs, τ) := by
      intro fu
      induction fu with
      | zero => intro j σs h1 h2; omega
      | succ fu ih =>
        intro j σs h1 h2 hl
        have inner : ∀ (fm : Nat) (i : Int) (σs : zSt), j < hh → 0 ≤ i ∧ i ≤ w → w - i < fm → xLI B σ1 (w) (hh) F (j * (w) + i) σs → zW G M_X10_part (xQ B (sp_part A to of x y w hh)) 109 [some (.ref B), some (vi to), some (vi of), some (vi x), some (vi y), some (vi w), some (vi hh), some (.ref (zpa B of.toNat)), some (vi j), some (vi i)] [] (zxS B, σs, τ) := by
          intro fm
          induction fm with
          | zero => intro i σs h3 h4 h5; omega
          | succ fm ihm =>
            intro i σs h3 h4 h5 hl
            have hpw := hl.pw (by omega) (by omega)
            have hw1 := hl.2.2.1
            have hw2 := hl.2.2.2.1
            have hsr := hs1.tr hl.1
            refine zw_iload 111 rfl dX10_part_109 rfl ?_
            refine zw_iload 113 rfl dX10_part_111 rfl ?_
            refine zw_icmp_ge 147 116 rfl dX10_part_113 (by decide) (by omega) (by omega) (fun h_113 => ?_) (fun h_113 => ?_)
            · refine zw_iinc 150 rfl dX10_part_147 (Nat.le_of_ble_eq_true rfl) rfl rfl ?_
              refine zw_goto 99 dX10_part_150 (by decide) ?_
              refine zw_drop 9 ?_
              exact ih (j + 1) _ (by omega) (by omega) (by rw [Int.add_mul, Int.one_mul, show w = i by omega]; rw [show w = i by omega] at hl; exact hl)
            · refine zw_aload_n 117 rfl dX10_part_116 rfl ?_
              refine zw_getr 120 rfl dX10_part_117 fl_X10_16 (by first | assumption | exact zx_o0 | exact zx_o _ _ _ rfl) (by first | assumption | exact zx_f0 _ _ rfl | exact zx_f _ _ _ rfl) ?_
              refine zw_iload 122 rfl dX10_part_120 rfl ?_
              refine zw_iload 124 rfl dX10_part_122 rfl ?_
              refine zw_aload 126 rfl dX10_part_124 rfl ?_
              refine zw_iload_n 127 rfl dX10_part_126 rfl ?_
              refine zw_iload 129 rfl dX10_part_127 rfl ?_
              refine zw_iadd 130 rfl dX10_part_129 ?_
              refine zw_iload 132 rfl dX10_part_130 rfl ?_
              refine zw_iload 134 rfl dX10_part_132 rfl ?_
              refine zw_iadd 135 rfl dX10_part_134 ?_
              refine zw_cVi2 138 rfl dX10_part_135 kX10_part_174 (Nat.le_of_ble_eq_true rfl) (zx_p6 (by omega)).1 (c_shadeAt (zx_p6 (by omega)) (hsr.P h.p of.toNat (by omega)).1 (by omega) (by omega)) ?_
              rw [(hsr.P h.p of.toNat (by omega)).dot hc2.1.2 (by omega) (by omega), hF']
              refine zw_cVv3 141 rfl dX10_part_138 kX10_part_184 (Nat.le_of_ble_eq_true rfl) (by first | assumption | exact zx_o0 | exact zx_o _ _ _ rfl) (c_putShade zx_work hpw (by omega) (by omega)) ?_
              rw [if_pos (by rw [zHas, hw1, hw2]; omega), hw1]
              refine zw_iinc 144 rfl dX10_part_141 (Nat.le_of_ble_eq_true rfl) rfl rfl ?_
              refine zw_goto 109 dX10_part_144 (by decide) ?_
              exact ihm (i + 1) _ h3 (by omega) (by omega) (by rw [← Int.add_assoc]; exact hl.put (by omega) (by omega))
        refine zw_iload 101 rfl dX10_part_99 rfl ?_
        refine zw_iload 103 rfl dX10_part_101 rfl ?_
        refine zw_icmp_ge 153 106 rfl dX10_part_103 (by decide) (by omega) (by omega) (fun h_103 => ?_) (fun h_103 => ?_)
        · have hpic := hl.pic (by rw [show j = hh by omega]; exact Int.le_refl _) (by omega) (by omega) (fun a b ha hb => by rw [← hF']; exact (hdr _ _ (by omega) (by omega)).2)
          refine zw_aload_n 154 rfl dX10_part_153 rfl ?_
          refine zw_iload_n 155 rfl dX10_part_154 rfl ?_
          refine zw_cVr1 158 rfl dX10_part_155 kX10_part_188 (Nat.le_of_ble_eq_true rfl) (by first | assumption | exact zx_o0 | exact zx_o _ _ _ rfl) (c_actOn ((hs1.tr hl.1).P h.p) ((hs1.tr hl.1).H h.2.1) hpic hc1) ?_
          rintro _ _ ⟨rfl, σ2, rfl, hA⟩
          refine zw_iconst 159 rfl dX10_part_158 ?_
          subst hF
          exact zw_zret (st := []) dX10_part_159 rfl (by omega) (xGood (σ := σ) (τ := τ) (by simp only [if_pos hc1, if_pos hc2, if_pos hc3, if_pos hc4]) rfl (h.act (hs1.tr hl.1) rfl (hl.2.1.trans h17) hA (by omega)))
        · refine zw_iconst 107 rfl dX10_part_106 ?_
          refine zw_istore 109 rfl dX10_part_107 (Nat.le_of_ble_eq_true rfl) rfl ?_
          exact inner (w.toNat + 1) 0 _ (by omega) (by omega) (by omega) (by rw [Int.add_zero]; exact hl)
    refine zw_aload_n 78 rfl dX10_part_77 rfl ?_
    refine zw_getr 81 rfl dX10_part_78 fl_X10_11 (by first | assumption | exact zx_o0 | exact zx_o _ _ _ rfl) (by first | assumption | exact zx_f0 _ _ rfl | exact zx_f _ _ _ rfl) ?_
    refine zw_iload_n 82 rfl dX10_part_81 rfl ?_
    refine zw_aald 83 rfl dX10_part_82 (by first | assumption | exact zx_o0 | exact zx_o _ _ _ rfl) (by omega) (by omega) (by first | assumption | exact zx_p6r (by omega)) ?_
    refine zw_astore 85 rfl dX10_part_83 (Nat.le_of_ble_eq_true rfl) rfl ?_
    refine zw_aload_n 86 rfl dX10_part_85 rfl ?_
    refine zw_getr 89 rfl dX10_part_86 fl_X10_16 (by first | assumption | exact zx_o0 | exact zx_o _ _ _ rfl) (by first | assumption | exact zx_f0 _ _ rfl | exact zx_f _ _ _ rfl) ?_
    refine zw_iload 91 rfl dX10_part_89 rfl ?_
    refine zw_iload 93 rfl dX10_part_91 rfl ?_
    refine zw_cVv2 96 rfl dX10_part_93 kX10_part_194 (Nat.le_of_ble_eq_true rfl) (by first | assumption | exact zx_o0 | exact zx_o _ _ _ rfl) (c_resize (zx_o 2 5 0 rfl) (by omega) (by omega)) ?_
    refine zw_iconst 97 rfl dX10_part_96 ?_
    refine zw_istore 99 rfl dX10_part_97 (Nat.le_of_ble_eq_true rfl) rfl ?_
    rw [zhold_in (by omega), zhold_in (by omega)]
    exact outer (hh.toNat + 1) 0 _ (by omega) (by omega) (by rw [Int.zero_mul]; exact xLI.start)
  have J : ∀ v : Int, v = (if aPl to then if aDot A of x y then if 1 ≤ w ∧ w ≤ (A.1 of.toNat).1 - x then if 1 ≤ hh ∧ hh ≤ (A.1 of.toNat).2.1 - y then 0 else 2 else 2 else 1 else 1) → zW G M_X10_part (xQ B (sp_part A to of x y w hh)) 69 [some (.ref B), some (vi to), some (vi of), some (vi x), some (vi y), some (vi w), some (vi hh), none, none, none] [vi v, .ref B] (zxS B, σ, τ) := by
    intro v hv

    refine zw_cVi1 72 rfl dX10_part_69 kX10_part_105 (Nat.le_of_ble_eq_true rfl) (by first | assumption | exact zx_o0 | exact zx_o _ _ _ rfl) (c_refused (by rw [hv]; (repeat' split) <;> omega)) ?_
    refine zw_if_eqB 77 75 rfl dX10_part_72 (by decide) (fun h_72 => ?_) (fun h_72 => ?_)
    · have hc1 : aPl to := Decidable.byContradiction fun q => by rw [if_neg q] at hv; (try split at hv) <;> omega
      rw [if_pos hc1] at hv
      have hc2 : aDot A of x y := Decidable.byContradiction fun q => by rw [if_neg q] at hv; (try split at hv) <;> omega
      rw [if_pos hc2] at hv
      have hc3 : 1 ≤ w ∧ w ≤ (A.1 of.toNat).1 - x := Decidable.byContradiction fun q => by rw [if_neg q] at hv; (try split at hv) <;> omega
      rw [if_pos hc3] at hv
      have hc4 : 1 ≤ hh ∧ hh ≤ (A.1 of.toNat).2.1 - y := Decidable.byContradiction fun q => by rw [if_neg q] at hv; (try split at hv) <;> omega
      rw [if_pos hc4] at hv
      subst hv
      exact body hc1 hc2 hc3 hc4
    · refine zw_iconst 76 rfl dX10_part_75 ?_
      subst hv
      exact zw_zret (st := []) dX10_part_76 rfl (by omega) (xRef h h_72 (by (repeat' split) <;> omega))
  refine zw_aload_n 1 rfl dX10_part_0 rfl ?_
  refine zw_iload_n 2 rfl dX10_part_1 rfl ?_
  refine zw_cSi1 5 rfl dX10_part_2 kX10_part_191 (Nat.le_of_ble_eq_true rfl) (c_isPlace hto) ?_
  refine zw_if_eqB 19 8 rfl dX10_part_5 (by decide) (fun h_5 => ?_) (fun h_5 => ?_)
  · refine zw_iconst 20 rfl dX10_part_19 ?_
    refine zw_goto 69 dX10_part_20 (by decide) ?_
    exact J _ (by simp only [if_neg h_5])
  · refine zw_aload_n 9 rfl dX10_part_8 rfl ?_
    refine zw_iload_n 10 rfl dX10_part_9 rfl ?_
    refine zw_iload_n 11 rfl dX10_part_10 rfl ?_
    refine zw_iload 13 rfl dX10_part_11 rfl ?_
    refine zw_cVi3 16 rfl dX10_part_13 kX10_part_171 (Nat.le_of_ble_eq_true rfl) (by first | assumption | exact zx_o0 | exact zx_o _ _ _ rfl) (c_hasDot h.p hof hx hy) ?_
    refine zw_if_neB 23 19 rfl dX10_part_16 (by decide) (fun h_16 => ?_) (fun h_16 => ?_)
    · have hwh := (h.p of.toNat (by omega)).wh h_16.1.2
      refine zw_iload 25 rfl dX10_part_23 rfl ?_
      refine zw_iconst 26 rfl dX10_part_25 ?_
      refine zw_aload_n 27 rfl dX10_part_26 rfl ?_
      refine zw_getr 30 rfl dX10_part_27 fl_X10_11 (by first | assumption | exact zx_o0 | exact zx_o _ _ _ rfl) (by first | assumption | exact zx_f0 _ _ rfl | exact zx_f _ _ _ rfl) ?_
      refine zw_iload_n 31 rfl dX10_part_30 rfl ?_
      refine zw_aald 32 rfl dX10_part_31 (by first | assumption | exact zx_o0 | exact zx_o _ _ _ rfl) (by omega) (by omega) (by first | assumption | exact zx_p6r (by omega)) ?_
      refine zw_geti 35 rfl dX10_part_32 fl_X10_148 (zx_p6 (by omega)).1 ?_
      rw [hwh.1.1]
      refine zw_iload_n 36 rfl dX10_part_35 rfl ?_
      refine zw_isub 37 rfl dX10_part_36 ?_
      refine zw_cSi3 40 rfl dX10_part_37 kX10_part_101 (Nat.le_of_ble_eq_true rfl) (c_within (by omega) (by omega) (by omega)) ?_
      refine zw_if_eqB 64 43 rfl dX10_part_40 (by decide) (fun h_40 => ?_) (fun h_40 => ?_)
      · refine zw_iconst 65 rfl dX10_part_64 ?_
        refine zw_goto 69 dX10_part_65 (by decide) ?_
        exact J _ (by simp only [if_pos h_5, if_pos h_16, if_neg h_40])
      · refine zw_iload 45 rfl dX10_part_43 rfl ?_
        refine zw_iconst 46 rfl dX10_part_45 ?_
        refine zw_aload_n 47 rfl dX10_part_46 rfl ?_
        refine zw_getr 50 rfl dX10_part_47 fl_X10_11 (by first | assumption | exact zx_o0 | exact zx_o _ _ _ rfl) (by first | assumption | exact zx_f0 _ _ rfl | exact zx_f _ _ _ rfl) ?_
        refine zw_iload_n 51 rfl dX10_part_50 rfl ?_
        refine zw_aald 52 rfl dX10_part_51 (by first | assumption | exact zx_o0 | exact zx_o _ _ _ rfl) (by omega) (by omega) (by first | assumption | exact zx_p6r (by omega)) ?_
        refine zw_geti 55 rfl dX10_part_52 fl_X10_151 (zx_p6 (by omega)).1 ?_
        rw [hwh.1.2]
        refine zw_iload 57 rfl dX10_part_55 rfl ?_
        refine zw_isub 58 rfl dX10_part_57 ?_
        refine zw_cSi3 61 rfl dX10_part_58 kX10_part_101 (Nat.le_of_ble_eq_true rfl) (c_within (by omega) (by omega) (by omega)) ?_
        refine zw_if_neB 68 64 rfl dX10_part_61 (by decide) (fun h_61 => ?_) (fun h_61 => ?_)
        · refine zw_iconst 69 rfl dX10_part_68 ?_
          exact J _ (by simp only [if_pos h_5, if_pos h_16, if_pos h_40, if_pos h_61])
        · refine zw_iconst 65 rfl dX10_part_64 ?_
          refine zw_goto 69 dX10_part_65 (by decide) ?_
          exact J _ (by simp only [if_pos h_5, if_pos h_16, if_pos h_40, if_neg h_61])
    · refine zw_iconst 20 rfl dX10_part_19 ?_
      refine zw_goto 69 dX10_part_20 (by decide) ?_
      exact J _ (by simp only [if_pos h_5, if_neg h_16])
