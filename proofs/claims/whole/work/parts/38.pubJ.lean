def aSma (p : zPc) (n : Int) : zPc := (p.1 / n, p.2.1 / n, fun x y => znear (aWS p (x * n) (y * n) n n) (aWC p (x * n) (y * n) n n))
def sp_smaller (A : zA) (to of n : Int) : Int × zA := aAns (if aPl to then if aTold A of then if 2 ≤ n ∧ n ≤ 4 then if (A.1 of.toNat).1 < n then 5 else if n ≤ (A.1 of.toNat).2.1 then 0 else 5 else 2 else 1 else 1) 0 A (1, aAct A to.toNat (aSma (A.1 of.toNat) n))
theorem zz_sm {x w n : Int} (hn : 0 < n) (hx : 0 ≤ x ∧ x < w / n) : 0 ≤ x * n ∧ x * n + n ≤ w := by
  have h1 : 0 ≤ x * n := Int.mul_nonneg hx.1 (by omega)
  have h2 : (x + 1) * n ≤ w / n * n := Int.mul_le_mul_of_nonneg_right (by omega) (by omega)
  have h3 : w / n * n ≤ w := Int.ediv_mul_le w (by omega)
  rw [Int.add_mul, Int.one_mul] at h2
  omega
theorem X_smaller {G : zG} {B : Nat} {σ τ : zSt} {A : zA} {to of n : Int} (h : zxR B σ τ A) (hto : -2147483648 ≤ to ∧ to ≤ 2147483647) (hof : -2147483648 ≤ of ∧ of ≤ 2147483647) (hn : -2147483648 ≤ n ∧ n ≤ 2147483647) : zC G M_X10_smaller [.ref B, vi to, vi of, vi n] (zxS B, σ, τ) (xQ B (sp_smaller A to of n)) := by
  refine zC_of 3 rfl (Nat.le_of_ble_eq_true rfl) ?_
  have body : aPl to → aTold A of → (2 ≤ n ∧ n ≤ 4) → (¬ (A.1 of.toNat).1 < n) → (n ≤ (A.1 of.toNat).2.1) → zW G M_X10_smaller (xQ B (sp_smaller A to of n)) 72 [some (.ref B), some (vi to), some (vi of), some (vi n), none, none, none] [] (zxS B, zu σ B 17 0, τ) := by
    intro hc1 hc2 hc3 hc4 hc5
    have hwh := (h.p of.toNat (by omega)).wh hc2.2
    have hdr := ((h.p of.toNat (by omega)).2.2 hc2.2).2.2
    generalize hσ1 : zu σ B 17 0 = σ1
    have h17 : σ1 B 17 = 0 := by rw [← hσ1]; exact zu_eq _ _ _ _
    have hs1 : xScr B σ σ1 := by rw [← hσ1]; exact xScr.z
    have hr1 : ∀ σs, xScr B σ1 σs → σs (zpa B of.toNat) 1 = (A.1 of.toNat).1 ∧ σs (zpa B of.toNat) 2 = (A.1 of.toNat).2.1 := fun σs q => (((hs1.tr q).P h.p of.toNat (by omega)).wh hc2.2).1
    have hq6 := (zx_p6 (B := B) (i := of.toNat) (by omega))
    have g1 : 1 ≤ (A.1 of.toNat).1 / n := Int.le_ediv_of_mul_le (by omega) (by omega)
    have g2 : 1 ≤ (A.1 of.toNat).2.1 / n := Int.le_ediv_of_mul_le (by omega) (by omega)
    have g3 : (A.1 of.toNat).1 / n ≤ 16 := Int.ediv_le_of_le_mul (by omega) (by omega)
    have g4 : (A.1 of.toNat).2.1 / n ≤ 12 := Int.ediv_le_of_le_mul (by omega) (by omega)
    have hsm := fun x w (hx : 0 ≤ x ∧ x < w / n) => zz_sm (w := w) (show 0 < n by omega) hx
    have hT : ∀ (σ' : zSt) (a b : Int), 0 ≤ a ∧ a < (A.1 of.toNat).1 / n → 0 ≤ b ∧ b < (A.1 of.toNat).2.1 / n → tokW (A.1 of.toNat) (a * n) (b * n) n n (aTal (zT0 σ' (B + 66)) (A.1 of.toNat) (a * n) (b * n) n n) ∧ _ := fun σ' a b ha hb => And.intro (aTal_ok (fun x y hx hy => (hdr x y hx hy).2)) (zz_win (x := a * n) (y := b * n) (u := n) (v := n) (a := a * n) (b := b * n) hwh.2.1 hwh.2.2 (by have := hsm a _ ha; omega) (by have := hsm b _ hb; omega) (by omega) (by omega))
    generalize hF : (fun x y : Int => znear (aWS (A.1 of.toNat) (x * n) (y * n) n n) (aWC (A.1 of.toNat) (x * n) (y * n) n n)) = F
    have hF' : ∀ x y : Int, znear (aWS (A.1 of.toNat) (x * n) (y * n) n n) (aWC (A.1 of.toNat) (x * n) (y * n) n n) = F x y := fun a b => by rw [← hF]
    generalize hW : (A.1 of.toNat).1 / n = W at g1 g3 hT
    generalize hH : (A.1 of.toNat).2.1 / n = H at g2 g4 hT
    have dW : ∀ x, 0 ≤ x ∧ x < W → 0 ≤ x * n ∧ x * n + n ≤ (A.1 of.toNat).1 := fun x hx => hsm x _ (by rw [hW]; exact hx)
    have dH : ∀ x, 0 ≤ x ∧ x < H → 0 ≤ x * n ∧ x * n + n ≤ (A.1 of.toNat).2.1 := fun x hx => hsm x _ (by rw [hH]; exact hx)
    have outer : ∀ (fu : Nat) (j : Int) (σs : zSt), 0 ≤ j ∧ j ≤ H → H - j < fu → xLI B σ1 (W) (H) F (j * (W)) σs → zW G M_X10_smaller (xQ B (sp_smaller A to of n)) 104 [some (.ref B), some (vi to), some (vi of), some (vi n), some (.ref (zpa B of.toNat)), some (vi j), none] [] (zxS B, σs, τ) := by
      intro fu
      induction fu with
      | zero => intro j σs h1 h2; omega
      | succ fu ih =>
        intro j σs h1 h2 hl
        have inner : ∀ (fm : Nat) (i : Int) (σs : zSt), j < H → 0 ≤ i ∧ i ≤ W → W - i < fm → xLI B σ1 (W) (H) F (j * (W) + i) σs → zW G M_X10_smaller (xQ B (sp_smaller A to of n)) 119 [some (.ref B), some (vi to), some (vi of), some (vi n), some (.ref (zpa B of.toNat)), some (vi j), some (vi i)] [] (zxS B, σs, τ) := by
          intro fm
          induction fm with
          | zero => intro i σs h3 h4 h5; omega
          | succ fm ihm =>
            intro i σs h3 h4 h5 hl
            have hpw := hl.pw (by omega) (by omega)
            have hw1 := hl.2.2.1
            have hw2 := hl.2.2.2.1
            have hsr := hs1.tr hl.1
            refine zw_iload 121 rfl dX10_smaller_119 rfl ?_
            refine zw_aload_n 122 rfl dX10_smaller_121 rfl ?_
            refine zw_getr 125 rfl dX10_smaller_122 fl_X10_16 (by first | assumption | exact zx_o0 | exact zx_o _ _ _ rfl) (by first | assumption | exact zx_f0 _ _ rfl | exact zx_f _ _ _ rfl) ?_
            refine zw_geti 128 rfl dX10_smaller_125 fl_X10_148 (by first | assumption | exact zx_o0 | exact zx_o _ _ _ rfl) ?_
            rw [hw1]
            refine zw_icmp_ge 167 131 rfl dX10_smaller_128 (by decide) (by omega) (by omega) (fun h_128 => ?_) (fun h_128 => ?_)
            · refine zw_iinc 170 rfl dX10_smaller_167 (Nat.le_of_ble_eq_true rfl) rfl rfl ?_
              refine zw_goto 104 dX10_smaller_170 (by decide) ?_
              refine zw_drop 6 ?_
              exact ih (j + 1) _ (by omega) (by omega) (by rw [Int.add_mul, Int.one_mul, show W = i by omega]; rw [show W = i by omega] at hl; exact hl)
            · have t1 := dW i (by omega)
              have t2 := dH j (by omega)
              refine zw_aload_n 132 rfl dX10_smaller_131 rfl ?_
              refine zw_getr 135 rfl dX10_smaller_132 fl_X10_16 (by first | assumption | exact zx_o0 | exact zx_o _ _ _ rfl) (by first | assumption | exact zx_f0 _ _ rfl | exact zx_f _ _ _ rfl) ?_
              refine zw_iload 137 rfl dX10_smaller_135 rfl ?_
              refine zw_iload 139 rfl dX10_smaller_137 rfl ?_
              refine zw_aload_n 140 rfl dX10_smaller_139 rfl ?_
              refine zw_aload 142 rfl dX10_smaller_140 rfl ?_
              refine zw_iload 144 rfl dX10_smaller_142 rfl ?_
              refine zw_iload_n 145 rfl dX10_smaller_144 rfl ?_
              refine zw_imul 146 rfl dX10_smaller_145 ?_
              refine zw_iload 148 rfl dX10_smaller_146 rfl ?_
              refine zw_iload_n 149 rfl dX10_smaller_148 rfl ?_
              refine zw_imul 150 rfl dX10_smaller_149 ?_
              refine zw_iload_n 151 rfl dX10_smaller_150 rfl ?_
              refine zw_iload_n 152 rfl dX10_smaller_151 rfl ?_
              refine zw_cVi5 155 rfl dX10_smaller_152 kX10_smaller_309 (Nat.le_of_ble_eq_true rfl) (by first | assumption | exact zx_o0 | exact zx_o _ _ _ rfl) (c_tallPart hq6 (hsr.P h.p of.toNat (by omega)) hc2.2 (by omega) (by omega) (by omega) (by omega) (by simp only [zpa]; omega)) ?_
              have hTT := hT σs i j (by omega) (by omega)
              generalize aTal (zT0 σs (B + 66)) (A.1 of.toNat) (i * n) (j * n) n n = T at hTT ⊢
              obtain ⟨⟨⟨q1, q2, q3⟩, ⟨q4, q5, q6⟩, q7⟩, q8⟩ := hTT
              have hl2 := hl.tal (T := T)
              refine zw_cVi0 158 rfl dX10_smaller_155 kX10_smaller_313 (Nat.le_of_ble_eq_true rfl) (by first | assumption | exact zx_o0 | exact zx_o _ _ _ rfl) (c_mean zx_tal (by rw [(zTs_a _ _ (by omega)).1, q4]; omega) (by rw [(zTs_a _ _ (by omega)).2]; omega)) ?_
              rw [(zTs_a _ _ (by omega)).1, (zTs_a _ _ (by omega)).2, q1, q2, hF']
              refine zw_cVv3 161 rfl dX10_smaller_158 kX10_smaller_184 (Nat.le_of_ble_eq_true rfl) (by first | assumption | exact zx_o0 | exact zx_o _ _ _ rfl) (c_putShade zx_work (hl2.pw (by omega) (by omega)) (by omega) (by omega)) ?_
              rw [if_pos (by rw [zHas, hl2.2.2.1, hl2.2.2.2.1]; omega), hl2.2.2.1]
              refine zw_iinc 164 rfl dX10_smaller_161 (Nat.le_of_ble_eq_true rfl) rfl rfl ?_
              refine zw_goto 119 dX10_smaller_164 (by decide) ?_
              exact ihm (i + 1) _ h3 (by omega) (by omega) (by rw [← Int.add_assoc]; exact hl2.put (by omega) (by omega))
        refine zw_iload 106 rfl dX10_smaller_104 rfl ?_
        refine zw_aload_n 107 rfl dX10_smaller_106 rfl ?_
        refine zw_getr 110 rfl dX10_smaller_107 fl_X10_16 (by first | assumption | exact zx_o0 | exact zx_o _ _ _ rfl) (by first | assumption | exact zx_f0 _ _ rfl | exact zx_f _ _ _ rfl) ?_
        refine zw_geti 113 rfl dX10_smaller_110 fl_X10_151 (by first | assumption | exact zx_o0 | exact zx_o _ _ _ rfl) ?_
        rw [hl.2.2.2.1]
        refine zw_icmp_ge 173 116 rfl dX10_smaller_113 (by decide) (by omega) (by omega) (fun h_113 => ?_) (fun h_113 => ?_)
        · have hpic := hl.pic (by rw [show j = H by omega]; exact Int.le_refl _) (by omega) (by omega) (fun a b ha hb => by
            rw [← hF']
            have hTT := hT σ a b ha hb
            have q1 := hTT.1.1
            have q2 := hTT.1.2.1
            have q3 := hTT.2
            rw [← q1.1, ← q1.2.1]
            exact znear_r q2.2.1.1 (by rw [q2.1]; omega) (by rw [q2.1]; exact q2.2.1.2))
          refine zw_aload_n 174 rfl dX10_smaller_173 rfl ?_
          refine zw_iload_n 175 rfl dX10_smaller_174 rfl ?_
          refine zw_cVr1 178 rfl dX10_smaller_175 kX10_smaller_188 (Nat.le_of_ble_eq_true rfl) (by first | assumption | exact zx_o0 | exact zx_o _ _ _ rfl) (c_actOn ((hs1.tr hl.1).P h.p) ((hs1.tr hl.1).H h.hs) hpic hc1) ?_
          rintro _ _ ⟨rfl, σ2, rfl, hA⟩
          refine zw_iconst 179 rfl dX10_smaller_178 ?_
          subst hF
          subst hW
          subst hH
          exact zw_zret (st := []) dX10_smaller_179 rfl (by omega) (xGood (σ := σ) (τ := τ) (by rw [if_pos hc1, if_pos hc2, if_pos hc3, if_neg hc4, if_pos hc5]) rfl (h.act (hs1.tr hl.1) rfl (hl.2.1.trans h17) hA (by omega)))
        · refine zw_iconst 117 rfl dX10_smaller_116 ?_
          refine zw_istore 119 rfl dX10_smaller_117 (Nat.le_of_ble_eq_true rfl) rfl ?_
          exact inner (W.toNat + 1) 0 _ (by omega) (by omega) (by omega) (by rw [Int.add_zero]; exact hl)
    refine zw_aload_n 73 rfl dX10_smaller_72 rfl ?_
    refine zw_getr 76 rfl dX10_smaller_73 fl_X10_11 (by first | assumption | exact zx_o0 | exact zx_o _ _ _ rfl) (by first | assumption | exact zx_f0 _ _ rfl | exact zx_f _ _ _ rfl) ?_
    refine zw_iload_n 77 rfl dX10_smaller_76 rfl ?_
    refine zw_aald 78 rfl dX10_smaller_77 (by first | assumption | exact zx_o0 | exact zx_o _ _ _ rfl) (by omega) (by omega) (by first | assumption | exact zx_p6r (by omega)) ?_
    refine zw_astore 80 rfl dX10_smaller_78 (Nat.le_of_ble_eq_true rfl) rfl ?_
    refine zw_aload_n 81 rfl dX10_smaller_80 rfl ?_
    refine zw_getr 84 rfl dX10_smaller_81 fl_X10_16 (by first | assumption | exact zx_o0 | exact zx_o _ _ _ rfl) (by first | assumption | exact zx_f0 _ _ rfl | exact zx_f _ _ _ rfl) ?_
    refine zw_aload 86 rfl dX10_smaller_84 rfl ?_
    refine zw_geti 89 rfl dX10_smaller_86 fl_X10_148 hq6.1 ?_
    rw [(hr1 σ1 xScr.rf).1]
    refine zw_iload_n 90 rfl dX10_smaller_89 rfl ?_
    refine zw_idiv 91 rfl dX10_smaller_90 (by omega) (by omega) ?_
    rw [hW]
    refine zw_aload 93 rfl dX10_smaller_91 rfl ?_
    refine zw_geti 96 rfl dX10_smaller_93 fl_X10_151 hq6.1 ?_
    rw [(hr1 σ1 xScr.rf).2]
    refine zw_iload_n 97 rfl dX10_smaller_96 rfl ?_
    refine zw_idiv 98 rfl dX10_smaller_97 (by omega) (by omega) ?_
    rw [hH]
    refine zw_cVv2 101 rfl dX10_smaller_98 kX10_smaller_194 (Nat.le_of_ble_eq_true rfl) (by first | assumption | exact zx_o0 | exact zx_o _ _ _ rfl) (c_resize (zx_o 2 5 0 rfl) (by omega) (by omega)) ?_
    refine zw_iconst 102 rfl dX10_smaller_101 ?_
    refine zw_istore 104 rfl dX10_smaller_102 (Nat.le_of_ble_eq_true rfl) rfl ?_
    rw [zhold_in (by omega), zhold_in (by omega)]
    exact outer (H.toNat + 1) 0 _ (by omega) (by omega) (by rw [Int.zero_mul]; exact xLI.start)
  have J : ∀ v : Int, v = (if aPl to then if aTold A of then if 2 ≤ n ∧ n ≤ 4 then if (A.1 of.toNat).1 < n then 5 else if n ≤ (A.1 of.toNat).2.1 then 0 else 5 else 2 else 1 else 1) → zW G M_X10_smaller (xQ B (sp_smaller A to of n)) 64 [some (.ref B), some (vi to), some (vi of), some (vi n), none, none, none] [vi v, .ref B] (zxS B, σ, τ) := by
    intro v hv

    refine zw_cVi1 67 rfl dX10_smaller_64 kX10_smaller_105 (Nat.le_of_ble_eq_true rfl) (by first | assumption | exact zx_o0 | exact zx_o _ _ _ rfl) (c_refused (by rw [hv]; (repeat' split) <;> omega)) ?_
    refine zw_if_eqB 72 70 rfl dX10_smaller_67 (by decide) (fun h_67 => ?_) (fun h_67 => ?_)
    · have hc1 : aPl to := Decidable.byContradiction fun q => by rw [if_neg q] at hv; (try split at hv) <;> omega
      rw [if_pos hc1] at hv
      have hc2 : aTold A of := Decidable.byContradiction fun q => by rw [if_neg q] at hv; (try split at hv) <;> omega
      rw [if_pos hc2] at hv
      have hc3 : 2 ≤ n ∧ n ≤ 4 := Decidable.byContradiction fun q => by rw [if_neg q] at hv; (try split at hv) <;> omega
      rw [if_pos hc3] at hv
      have hc4 : ¬ (A.1 of.toNat).1 < n := fun q => by rw [if_pos q] at hv; omega
      rw [if_neg hc4] at hv
      have hc5 : n ≤ (A.1 of.toNat).2.1 := Decidable.byContradiction fun q => by rw [if_neg q] at hv; omega
      rw [if_pos hc5] at hv
      subst hv
      exact body hc1 hc2 hc3 hc4 hc5
    · refine zw_iconst 71 rfl dX10_smaller_70 ?_
      subst hv
      exact zw_zret (st := []) dX10_smaller_71 rfl (by omega) (xRef h h_67 (by (repeat' split) <;> omega))
  refine zw_aload_n 1 rfl dX10_smaller_0 rfl ?_
  refine zw_iload_n 2 rfl dX10_smaller_1 rfl ?_
  refine zw_cSi1 5 rfl dX10_smaller_2 kX10_smaller_191 (Nat.le_of_ble_eq_true rfl) (c_isPlace hto) ?_
  refine zw_if_eqB 16 8 rfl dX10_smaller_5 (by decide) (fun h_5 => ?_) (fun h_5 => ?_)
  · refine zw_iconst 17 rfl dX10_smaller_16 ?_
    refine zw_goto 64 dX10_smaller_17 (by decide) ?_
    exact J _ (by simp only [if_neg h_5])
  · refine zw_aload_n 9 rfl dX10_smaller_8 rfl ?_
    refine zw_iload_n 10 rfl dX10_smaller_9 rfl ?_
    refine zw_cVi1 13 rfl dX10_smaller_10 kX10_smaller_145 (Nat.le_of_ble_eq_true rfl) (by first | assumption | exact zx_o0 | exact zx_o _ _ _ rfl) (c_told h.p hof) ?_
    refine zw_if_neB 20 16 rfl dX10_smaller_13 (by decide) (fun h_13 => ?_) (fun h_13 => ?_)
    · refine zw_iload_n 21 rfl dX10_smaller_20 rfl ?_
      refine zw_iconst 22 rfl dX10_smaller_21 ?_
      refine zw_iconst 23 rfl dX10_smaller_22 ?_
      refine zw_cSi3 26 rfl dX10_smaller_23 kX10_smaller_101 (Nat.le_of_ble_eq_true rfl) (c_within (by omega) (by omega) (by omega)) ?_
      refine zw_if_neB 33 29 rfl dX10_smaller_26 (by decide) (fun h_26 => ?_) (fun h_26 => ?_)
      · have hwh := (h.p of.toNat (by omega)).wh h_13.2
        refine zw_aload_n 34 rfl dX10_smaller_33 rfl ?_
        refine zw_getr 37 rfl dX10_smaller_34 fl_X10_11 (by first | assumption | exact zx_o0 | exact zx_o _ _ _ rfl) (by first | assumption | exact zx_f0 _ _ rfl | exact zx_f _ _ _ rfl) ?_
        refine zw_iload_n 38 rfl dX10_smaller_37 rfl ?_
        refine zw_aald 39 rfl dX10_smaller_38 (by first | assumption | exact zx_o0 | exact zx_o _ _ _ rfl) (by omega) (by omega) (by first | assumption | exact zx_p6r (by omega)) ?_
        refine zw_geti 42 rfl dX10_smaller_39 fl_X10_148 (zx_p6 (by omega)).1 ?_
        rw [hwh.1.1]
        refine zw_iload_n 43 rfl dX10_smaller_42 rfl ?_
        refine zw_icmp_lt 59 46 rfl dX10_smaller_43 (by decide) (by omega) (by omega) (fun h_43 => ?_) (fun h_43 => ?_)
        · refine zw_iconst 60 rfl dX10_smaller_59 ?_
          refine zw_goto 64 dX10_smaller_60 (by decide) ?_
          exact J _ (by simp only [if_pos h_5, if_pos h_13, if_pos h_26, if_pos h_43])
        · refine zw_aload_n 47 rfl dX10_smaller_46 rfl ?_
          refine zw_getr 50 rfl dX10_smaller_47 fl_X10_11 (by first | assumption | exact zx_o0 | exact zx_o _ _ _ rfl) (by first | assumption | exact zx_f0 _ _ rfl | exact zx_f _ _ _ rfl) ?_
          refine zw_iload_n 51 rfl dX10_smaller_50 rfl ?_
          refine zw_aald 52 rfl dX10_smaller_51 (by first | assumption | exact zx_o0 | exact zx_o _ _ _ rfl) (by omega) (by omega) (by first | assumption | exact zx_p6r (by omega)) ?_
          refine zw_geti 55 rfl dX10_smaller_52 fl_X10_151 (zx_p6 (by omega)).1 ?_
          rw [hwh.1.2]
          refine zw_iload_n 56 rfl dX10_smaller_55 rfl ?_
          refine zw_icmp_ge 63 59 rfl dX10_smaller_56 (by decide) (by omega) (by omega) (fun h_56 => ?_) (fun h_56 => ?_)
          · refine zw_iconst 64 rfl dX10_smaller_63 ?_
            exact J _ (by simp only [if_pos h_5, if_pos h_13, if_pos h_26, if_neg h_43, if_pos h_56])
          · refine zw_iconst 60 rfl dX10_smaller_59 ?_
            refine zw_goto 64 dX10_smaller_60 (by decide) ?_
            exact J _ (by simp only [if_pos h_5, if_pos h_13, if_pos h_26, if_neg h_43, if_neg h_56])
      · refine zw_iconst 30 rfl dX10_smaller_29 ?_
        refine zw_goto 64 dX10_smaller_30 (by decide) ?_
        exact J _ (by simp only [if_pos h_5, if_pos h_13, if_neg h_26])
    · refine zw_iconst 17 rfl dX10_smaller_16 ?_
      refine zw_goto 64 dX10_smaller_17 (by decide) ?_
      exact J _ (by simp only [if_pos h_5, if_neg h_13])
/-! ===== the least and greatest shade ===== -/
theorem aLeast_eq {σ : zSt} {a : Nat} {p : zPc} (h : xrPic σ a p) (h0 : 0 < p.1) : zfold (fun d m => if σ (a + 1) d < m then σ (a + 1) d else m) (σ a 1 * σ a 2).toNat 255 = aLeast p := by
  have h1 := h.wh h0
  rw [h1.1.1, h1.1.2]
  refine zfold_win (by omega) (by omega) (fun x y hx hy m => ?_) 255
  rw [((h.2.2 h0).2.2 x y hx hy).1]
theorem aMost_eq {σ : zSt} {a : Nat} {p : zPc} (h : xrPic σ a p) (h0 : 0 < p.1) : zfold (fun d m => if m < σ (a + 1) d then σ (a + 1) d else m) (σ a 1 * σ a 2).toNat 0 = aMost p := by
  have h1 := h.wh h0
  rw [h1.1.1, h1.1.2]
  refine zfold_win (by omega) (by omega) (fun x y hx hy m => ?_) 0
  rw [((h.2.2 h0).2.2 x y hx hy).1]
theorem aSum_eq {σ : zSt} {a : Nat} {p : zPc} (h : xrPic σ a p) (h0 : 0 < p.1) : zfold (fun d m => m + σ (a + 1) d) (σ a 1 * σ a 2).toNat 0 = aSum p := by
  have h1 := h.wh h0
  rw [h1.1.1, h1.1.2]
  refine zfold_win (by omega) (by omega) (fun x y hx hy m => ?_) 0
  rw [((h.2.2 h0).2.2 x y hx hy).1]
theorem c_leastP {G : zG} {S : zSh} {σ τ : zSt} {a : Nat} {p : zPc} (hp : zPic S a (a + 1)) (h : xrPic σ a p) (h0 : 0 < p.1) : zC G M_X5_least [.ref a] (S, σ, τ) (zR (some (vi (aLeast p))) (S, σ, τ)) := by
  rw [← aLeast_eq h h0]; exact c_least hp h.1 (h.sd h0)
theorem c_greatestP {G : zG} {S : zSh} {σ τ : zSt} {a : Nat} {p : zPc} (hp : zPic S a (a + 1)) (h : xrPic σ a p) (h0 : 0 < p.1) : zC G M_X5_greatest [.ref a] (S, σ, τ) (zR (some (vi (aMost p))) (S, σ, τ)) := by
  rw [← aMost_eq h h0]; exact c_greatest hp h.1 (h.sd h0)
theorem c_togetherP {G : zG} {S : zSh} {σ τ : zSt} {a : Nat} {p : zPc} (hp : zPic S a (a + 1)) (h : xrPic σ a p) (h0 : 0 < p.1) : zC G M_X5_together [.ref a] (S, σ, τ) (zR (some (vi (aSum p))) (S, σ, τ)) := by
  rw [← aSum_eq h h0]; exact c_together hp h.1
/-- all dots of a picture are shades -/
abbrev aDots (p : zPc) : Prop := ∀ x y : Int, 0 ≤ x ∧ x < p.1 → 0 ≤ y ∧ y < p.2.1 → 0 ≤ p.2.2 x y ∧ p.2.2 x y ≤ 255
theorem aLeast_r {p : zPc} (hd : aDots p) : 0 ≤ aLeast p ∧ aLeast p ≤ 255 :=
  zwin_ind (fun _ m => 0 ≤ m ∧ m ≤ 255) (by omega) (fun n x y m hx hy hI => by have := hd x y hx hy; split <;> omega)
theorem aMost_r {p : zPc} (hd : aDots p) : 0 ≤ aMost p ∧ aMost p ≤ 255 :=
  zwin_ind (fun _ m => 0 ≤ m ∧ m ≤ 255) (by omega) (fun n x y m hx hy hI => by have := hd x y hx hy; split <;> omega)
theorem zfold_get {α : Type} {f : Nat → α → α} (I : α → Prop) (J : α → Prop) (hk : ∀ i b, J b → J (f i b)) : ∀ (n k : Nat) (a : α), k < n → (∀ b, J (f k b)) → J (zfold f n a)
  | 0, k, a, h, _ => by omega
  | n + 1, k, a, h, hj => by
    simp only [zfold]
    by_cases e : k = n
    · subst e; exact hj _
    · exact hk n _ (zfold_get I J hk n k a (by omega) hj)
theorem zwin_get {α : Type} {f : Int → Int → α → α} {x0 x1 y0 y1 x y : Int} {a : α} (J : α → Prop) (hk : ∀ x y b, J b → J (f x y b)) (hx : x0 ≤ x ∧ x < x1) (hy : y0 ≤ y ∧ y < y1) (hj : ∀ b, J (f x y b)) : J (zwin x0 x1 y0 y1 f a) := by
  unfold zwin
  refine zfold_get (fun _ => True) J (fun j b hb => ?_) _ (y - y0).toNat a (by omega) (fun b => ?_)
  · have : ∀ n, J (zfold (fun i => f (x0 + i) (y0 + j)) n b) := by
      intro n
      induction n with
      | zero => exact hb
      | succ n ih => exact hk _ _ _ ih
    exact this _
  · refine zfold_get (fun _ => True) J (fun i b hb => hk _ _ b hb) _ (x - x0).toNat b (by omega) (fun c => ?_)
    rw [show x0 + ((x - x0).toNat : Int) = x by omega, show y0 + ((y - y0).toNat : Int) = y by omega]
    exact hj c
theorem aLeast_le {p : zPc} {x y : Int} (hx : 0 ≤ x ∧ x < p.1) (hy : 0 ≤ y ∧ y < p.2.1) : aLeast p ≤ p.2.2 x y :=
  zwin_get (fun m => m ≤ p.2.2 x y) (fun a b m hm => by split <;> omega) hx hy (fun b => by split <;> omega)
theorem aMost_ge {p : zPc} {x y : Int} (hx : 0 ≤ x ∧ x < p.1) (hy : 0 ≤ y ∧ y < p.2.1) : p.2.2 x y ≤ aMost p :=
  zwin_get (fun m => p.2.2 x y ≤ m) (fun a b m hm => by split <;> omega) hx hy (fun b => by split <;> omega)
