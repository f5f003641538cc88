theorem c_around1 {G : zG} {B : Nat} {σ τ : zSt} {A : zA} {to of n : Int} (h : zxR B σ τ A) (hto : -2147483648 ≤ to ∧ to ≤ 2147483647) (hof : -2147483648 ≤ of ∧ of ≤ 2147483647) (hn : -2147483648 ≤ n ∧ n ≤ 2147483647) : zC G M_X10_actAround [.ref B, vi to, vi of, vi n, vi 1] (zxS B, σ, τ) (xQ B (sp_median A to of n)) := by
  refine zC_of 4 rfl (Nat.le_of_ble_eq_true rfl) ?_
  have body : aPl to → aTold A of → (0 ≤ n ∧ n ≤ 4) → zW G M_X10_actAround (xQ B (sp_median A to of n)) 42 [some (.ref B), some (vi to), some (vi of), some (vi n), some (vi 1), none, none, none, none] [] (zxS B, zu σ B 17 0, τ) := by
    intro hc1 hc2 hc3
    have hwh := (h.p of.toNat (by omega)).wh hc2.2
    have hdr := ((h.p of.toNat (by omega)).2.2 hc2.2).2.2
    generalize hσ1 : zu σ B 17 0 = σ1
    have h17 : σ1 B 17 = 0 := by rw [← hσ1]; exact zu_eq _ _ _ _
    have hs1 : xScr B σ σ1 := by rw [← hσ1]; exact xScr.z
    have hr1 : ∀ σs, xScr B σ1 σs → σs (zpa B of.toNat) 1 = (A.1 of.toNat).1 ∧ σs (zpa B of.toNat) 2 = (A.1 of.toNat).2.1 := fun σs q => (((hs1.tr q).P h.p of.toNat (by omega)).wh hc2.2).1
    have hq6 := (zx_p6 (B := B) (i := of.toNat) (by omega))
    have hT : ∀ (σ' : zSt) (a b : Int), 0 ≤ a ∧ a < (A.1 of.toNat).1 → 0 ≤ b ∧ b < (A.1 of.toNat).2.1 → tokW (A.1 of.toNat) (a - n) (b - n) (2 * n + 1) (2 * n + 1) (aTal (zT0 σ' (B + 66)) (A.1 of.toNat) (a - n) (b - n) (2 * n + 1) (2 * n + 1)) ∧ _ := fun σ' a b ha hb => And.intro (aTal_ok (fun x y hx hy => (hdr x y hx hy).2)) (zz_win (x := a - n) (y := b - n) (u := 2 * n + 1) (v := 2 * n + 1) hwh.2.1 hwh.2.2 ha hb (by omega) (by omega))
    generalize hF : (fun x y : Int => zrk (aWM (A.1 of.toNat) (x - n) (y - n) (2 * n + 1) (2 * n + 1)) 256 0 ((aWC (A.1 of.toNat) (x - n) (y - n) (2 * n + 1) (2 * n + 1) - 1) / 2)) = F
    have hF' : ∀ x y : Int, zrk (aWM (A.1 of.toNat) (x - n) (y - n) (2 * n + 1) (2 * n + 1)) 256 0 ((aWC (A.1 of.toNat) (x - n) (y - n) (2 * n + 1) (2 * n + 1) - 1) / 2) = F x y := fun a b => by rw [← hF]
    have outer : ∀ (fu : Nat) (j : Int) (σs : zSt), 0 ≤ j ∧ j ≤ (A.1 of.toNat).2.1 → (A.1 of.toNat).2.1 - j < fu → xLI B σ1 ((A.1 of.toNat).1) ((A.1 of.toNat).2.1) F (j * ((A.1 of.toNat).1)) σs → zW G M_X10_actAround (xQ B (sp_median A to of n)) 70 [some (.ref B), some (vi to), some (vi of), some (vi n), some (vi 1), some (.ref (zpa B of.toNat)), some (vi j), none, none] [] (zxS B, σs, τ) := by
      intro fu
      induction fu with
      | zero => intro j σs h1 h2; omega
      | succ fu ih =>
        intro j σs h1 h2 hl
        have inner : ∀ (fm : Nat) (i : Int) (σs : zSt), j < (A.1 of.toNat).2.1 → 0 ≤ i ∧ i ≤ (A.1 of.toNat).1 → (A.1 of.toNat).1 - i < fm → xLI B σ1 ((A.1 of.toNat).1) ((A.1 of.toNat).2.1) F (j * ((A.1 of.toNat).1) + i) σs → zW G M_X10_actAround (xQ B (sp_median A to of n)) 83 [some (.ref B), some (vi to), some (vi of), some (vi n), some (vi 1), some (.ref (zpa B of.toNat)), some (vi j), some (vi i), none] [] (zxS B, σs, τ) := by
          intro fm
          induction fm with
          | zero => intro i σs h3 h4 h5; omega
          | succ fm ihm =>
            intro i σs h3 h4 h5 hl
            have hpw := hl.pw (by omega) (by omega)
            have hw1 := hl.2.2.1
            have hw2 := hl.2.2.2.1
            have hsr := hs1.tr hl.1
            have hrs := hr1 σs hl.1
            refine zw_iload 85 rfl dX10_actAround_83 rfl ?_
            refine zw_aload 87 rfl dX10_actAround_85 rfl ?_
            refine zw_geti 90 rfl dX10_actAround_87 fl_X10_148 hq6.1 ?_
            rw [hrs.1]
            refine zw_icmp_ge 141 93 rfl dX10_actAround_90 (by decide) (by omega) (by omega) (fun h_90 => ?_) (fun h_90 => ?_)
            · refine zw_iinc 144 rfl dX10_actAround_141 (Nat.le_of_ble_eq_true rfl) rfl rfl ?_
              refine zw_goto 70 dX10_actAround_144 (by decide) ?_
              refine zw_drop 7 ?_
              exact ih (j + 1) _ (by omega) (by omega) (by rw [Int.add_mul, Int.one_mul, show (A.1 of.toNat).1 = i by omega]; rw [show (A.1 of.toNat).1 = i by omega] at hl; exact hl)
            · refine zw_aload_n 94 rfl dX10_actAround_93 rfl ?_
              refine zw_aload 96 rfl dX10_actAround_94 rfl ?_
              refine zw_iload 98 rfl dX10_actAround_96 rfl ?_
              refine zw_iload 100 rfl dX10_actAround_98 rfl ?_
              refine zw_iload_n 101 rfl dX10_actAround_100 rfl ?_
              refine zw_cVi4 104 rfl dX10_actAround_101 kX10_actAround_324 (Nat.le_of_ble_eq_true rfl) (by first | assumption | exact zx_o0 | exact zx_o _ _ _ rfl) (c_tallAround hq6 (hsr.P h.p of.toNat (by omega)) hc2.2 (by omega) (by omega) hc3 (by simp only [zpa]; omega)) ?_
              refine zw_astore 106 rfl dX10_actAround_104 (Nat.le_of_ble_eq_true rfl) rfl ?_
              refine zw_aload_n 107 rfl dX10_actAround_106 rfl ?_
              refine zw_getr 110 rfl dX10_actAround_107 fl_X10_16 (by first | assumption | exact zx_o0 | exact zx_o _ _ _ rfl) (by first | assumption | exact zx_f0 _ _ rfl | exact zx_f _ _ _ rfl) ?_
              refine zw_iload 112 rfl dX10_actAround_110 rfl ?_
              refine zw_iload 114 rfl dX10_actAround_112 rfl ?_
              refine zw_iload 116 rfl dX10_actAround_114 rfl ?_
              refine zw_if_eq 127 119 rfl dX10_actAround_116 (by decide) (by omega) (fun h_116 => ?_) (fun h_116 => ?_)
              · exact absurd h_116 (by decide)
              · have hTT := hT σs i j (by omega) (by omega)
                generalize aTal (zT0 σs (B + 66)) (A.1 of.toNat) (i - n) (j - n) (2 * n + 1) (2 * n + 1) = T at hTT ⊢
                obtain ⟨⟨⟨q1, q2, q3⟩, ⟨q4, q5, q6⟩, q7⟩, q8⟩ := hTT
                have hl2 := hl.tal (T := T)
                refine zw_aload 121 rfl dX10_actAround_119 rfl ?_
                refine zw_cVi0 124 rfl dX10_actAround_121 kX10_actAround_328 (Nat.le_of_ble_eq_true rfl) (by first | assumption | exact zx_o0 | exact zx_o _ _ _ rfl) (c_middle zx_tal (fun v hv => by rw [zTs_t]; have := q6 v hv; omega) (by rw [(zTs_a _ _ (by omega)).1, q4]; omega)) ?_
                refine zw_goto 132 dX10_actAround_124 (by decide) ?_
                rw [(zTs_a _ _ (by omega)).1, zTs_t, q1, zrk_c 256 0 _ (fun v _ hv => q3 v (by omega)), hF']
                refine zw_cVv3 135 rfl dX10_actAround_132 kX10_actAround_184 (Nat.le_of_ble_eq_true rfl) (by first | assumption | exact zx_o0 | exact zx_o _ _ _ rfl) (c_putShade zx_work (hl2.pw (by omega) (by omega)) (by omega) (by omega)) ?_
                rw [if_pos (by rw [zHas, hl2.2.2.1, hl2.2.2.2.1]; omega), hl2.2.2.1]
                refine zw_iinc 138 rfl dX10_actAround_135 (Nat.le_of_ble_eq_true rfl) rfl rfl ?_
                refine zw_goto 83 dX10_actAround_138 (by decide) ?_
                refine zw_drop 8 ?_
                exact ihm (i + 1) _ h3 (by omega) (by omega) (by rw [← Int.add_assoc]; exact hl2.put (by omega) (by omega))
        refine zw_iload 72 rfl dX10_actAround_70 rfl ?_
        refine zw_aload 74 rfl dX10_actAround_72 rfl ?_
        refine zw_geti 77 rfl dX10_actAround_74 fl_X10_151 hq6.1 ?_
        rw [(hr1 σs hl.1).2]
        refine zw_icmp_ge 147 80 rfl dX10_actAround_77 (by decide) (by omega) (by omega) (fun h_77 => ?_) (fun h_77 => ?_)
        · have hpic : xrPic σs (B + 2) (aMed (A.1 of.toNat) n) := by
            subst hF
            refine hl.pic (by rw [show j = (A.1 of.toNat).2.1 by omega]; exact Int.le_refl _) hwh.2.1 hwh.2.2 (fun a b ha hb => ?_)
            have hTT := hT σ a b ha hb
            generalize aTal (zT0 σ (B + 66)) (A.1 of.toNat) (a - n) (b - n) (2 * n + 1) (2 * n + 1) = T at hTT
            obtain ⟨⟨⟨q1, q2, q3⟩, ⟨q4, q5, q6⟩, q7⟩, q8⟩ := hTT
            rw [← zrk_c 256 0 _ (fun v _ hv => q3 v (by omega)), ← q1]
            have := zrk_r (t := T.1) 256 0 ((T.2.1 - 1) / 2) (by omega) (by rw [q7]; omega)
            omega
          refine zw_aload_n 148 rfl dX10_actAround_147 rfl ?_
          refine zw_iload_n 149 rfl dX10_actAround_148 rfl ?_
          refine zw_iload_n 150 rfl dX10_actAround_149 rfl ?_
          refine zw_cVr2 153 rfl dX10_actAround_150 kX10_actAround_220 (Nat.le_of_ble_eq_true rfl) (by first | assumption | exact zx_o0 | exact zx_o _ _ _ rfl) (c_actCO ((hs1.tr hl.1).P h.p) ((hs1.tr hl.1).H h.hs) hpic hc1 hc2.1 hc2.2 rfl rfl) ?_
          rintro _ _ ⟨rfl, σ2, rfl, hA⟩
          exact zw_iret (st := []) dX10_actAround_153 rfl (xGood (σ := σ) (τ := τ) (by simp only [if_pos hc1, if_pos hc2, if_pos hc3]) rfl (h.act (hs1.tr hl.1) rfl (hl.2.1.trans h17) hA (by omega)))
        · refine zw_iconst 81 rfl dX10_actAround_80 ?_
          refine zw_istore 83 rfl dX10_actAround_81 (Nat.le_of_ble_eq_true rfl) rfl ?_
          exact inner ((A.1 of.toNat).1.toNat + 1) 0 _ (by omega) (by omega) (by omega) (by rw [Int.add_zero]; exact hl)
    refine zw_aload_n 43 rfl dX10_actAround_42 rfl ?_
    refine zw_getr 46 rfl dX10_actAround_43 fl_X10_11 (by first | assumption | exact zx_o0 | exact zx_o _ _ _ rfl) (by first | assumption | exact zx_f0 _ _ rfl | exact zx_f _ _ _ rfl) ?_
    refine zw_iload_n 47 rfl dX10_actAround_46 rfl ?_
    refine zw_aald 48 rfl dX10_actAround_47 (by first | assumption | exact zx_o0 | exact zx_o _ _ _ rfl) (by omega) (by omega) (by first | assumption | exact zx_p6r (by omega)) ?_
    refine zw_astore 50 rfl dX10_actAround_48 (Nat.le_of_ble_eq_true rfl) rfl ?_
    refine zw_aload_n 51 rfl dX10_actAround_50 rfl ?_
    refine zw_getr 54 rfl dX10_actAround_51 fl_X10_16 (by first | assumption | exact zx_o0 | exact zx_o _ _ _ rfl) (by first | assumption | exact zx_f0 _ _ rfl | exact zx_f _ _ _ rfl) ?_
    refine zw_aload 56 rfl dX10_actAround_54 rfl ?_
    refine zw_geti 59 rfl dX10_actAround_56 fl_X10_148 hq6.1 ?_
    refine zw_aload 61 rfl dX10_actAround_59 rfl ?_
    refine zw_geti 64 rfl dX10_actAround_61 fl_X10_151 hq6.1 ?_
    rw [(hr1 σ1 xScr.rf).1, (hr1 σ1 xScr.rf).2]
    refine zw_cVv2 67 rfl dX10_actAround_64 kX10_actAround_194 (Nat.le_of_ble_eq_true rfl) (by first | assumption | exact zx_o0 | exact zx_o _ _ _ rfl) (c_resize (zx_o 2 5 0 rfl) (by omega) (by omega)) ?_
    refine zw_iconst 68 rfl dX10_actAround_67 ?_
    refine zw_istore 70 rfl dX10_actAround_68 (Nat.le_of_ble_eq_true rfl) rfl ?_
    rw [zhold_in (by omega), zhold_in (by omega)]
    exact outer ((A.1 of.toNat).2.1.toNat + 1) 0 _ (by omega) (by omega) (by rw [Int.zero_mul]; exact xLI.start)
  have J : ∀ v : Int, v = (if aPl to then if aTold A of then if 0 ≤ n ∧ n ≤ 4 then 0 else 2 else 1 else 1) → zW G M_X10_actAround (xQ B (sp_median A to of n)) 34 [some (.ref B), some (vi to), some (vi of), some (vi n), some (vi 1), none, none, none, none] [vi v, .ref B] (zxS B, σ, τ) := by
    intro v hv

    refine zw_cVi1 37 rfl dX10_actAround_34 kX10_actAround_105 (Nat.le_of_ble_eq_true rfl) (by first | assumption | exact zx_o0 | exact zx_o _ _ _ rfl) (c_refused (by rw [hv]; (repeat' split) <;> omega)) ?_
    refine zw_if_eqB 42 40 rfl dX10_actAround_37 (by decide) (fun h_37 => ?_) (fun h_37 => ?_)
    · have hc1 : aPl to := Decidable.byContradiction fun q => by rw [if_neg q] at hv; (try split at hv) <;> omega
      rw [if_pos hc1] at hv
      have hc2 : aTold A of := Decidable.byContradiction fun q => by rw [if_neg q] at hv; (try split at hv) <;> omega
      rw [if_pos hc2] at hv
      have hc3 : 0 ≤ n ∧ n ≤ 4 := Decidable.byContradiction fun q => by rw [if_neg q] at hv; (try split at hv) <;> omega
      rw [if_pos hc3] at hv
      subst hv
      exact body hc1 hc2 hc3
    · refine zw_iconst 41 rfl dX10_actAround_40 ?_
      subst hv
      exact zw_iret (st := []) dX10_actAround_41 rfl (xRef h h_37 (by (repeat' split) <;> omega))
  refine zw_aload_n 1 rfl dX10_actAround_0 rfl ?_
  refine zw_iload_n 2 rfl dX10_actAround_1 rfl ?_
  refine zw_cSi1 5 rfl dX10_actAround_2 kX10_actAround_191 (Nat.le_of_ble_eq_true rfl) (c_isPlace hto) ?_
  refine zw_if_eqB 16 8 rfl dX10_actAround_5 (by decide) (fun h_5 => ?_) (fun h_5 => ?_)
  · refine zw_iconst 17 rfl dX10_actAround_16 ?_
    refine zw_goto 34 dX10_actAround_17 (by decide) ?_
    exact J _ (by simp only [if_neg h_5])
  · refine zw_aload_n 9 rfl dX10_actAround_8 rfl ?_
    refine zw_iload_n 10 rfl dX10_actAround_9 rfl ?_
    refine zw_cVi1 13 rfl dX10_actAround_10 kX10_actAround_145 (Nat.le_of_ble_eq_true rfl) (by first | assumption | exact zx_o0 | exact zx_o _ _ _ rfl) (c_told h.p hof) ?_
    refine zw_if_neB 20 16 rfl dX10_actAround_13 (by decide) (fun h_13 => ?_) (fun h_13 => ?_)
    · refine zw_iload_n 21 rfl dX10_actAround_20 rfl ?_
      refine zw_iconst 22 rfl dX10_actAround_21 ?_
      refine zw_iconst 23 rfl dX10_actAround_22 ?_
      refine zw_cSi3 26 rfl dX10_actAround_23 kX10_actAround_101 (Nat.le_of_ble_eq_true rfl) (c_within (by omega) (by omega) (by omega)) ?_
      refine zw_if_neB 33 29 rfl dX10_actAround_26 (by decide) (fun h_26 => ?_) (fun h_26 => ?_)
      · refine zw_iconst 34 rfl dX10_actAround_33 ?_
        exact J _ (by simp only [if_pos h_5, if_pos h_13, if_pos h_26])
      · refine zw_iconst 30 rfl dX10_actAround_29 ?_
        refine zw_goto 34 dX10_actAround_30 (by decide) ?_
        exact J _ (by simp only [if_pos h_5, if_pos h_13, if_neg h_26])
    · refine zw_iconst 17 rfl dX10_actAround_16 ?_
      refine zw_goto 34 dX10_actAround_17 (by decide) ?_
      exact J _ (by simp only [if_pos h_5, if_neg h_13])
theorem X_median {G : zG} {B : Nat} {σ τ : zSt} {A : zA} {to of n : Int} (h : zxR B σ τ A) (hto : -2147483648 ≤ to ∧ to ≤ 2147483647) (hof : -2147483648 ≤ of ∧ of ≤ 2147483647) (hn : -2147483648 ≤ n ∧ n ≤ 2147483647) : zC G M_X10_median [.ref B, vi to, vi of, vi n] (zxS B, σ, τ) (xQ B (sp_median A to of n)) := by
  refine zC_of 0 rfl (Nat.le_of_ble_eq_true rfl) ?_
  refine zw_aload_n 1 rfl dX10_median_0 rfl ?_
  refine zw_iload_n 2 rfl dX10_median_1 rfl ?_
  refine zw_iload_n 3 rfl dX10_median_2 rfl ?_
  refine zw_iload_n 4 rfl dX10_median_3 rfl ?_
  refine zw_iconst 5 rfl dX10_median_4 ?_
  refine zw_cVr4 8 rfl dX10_median_5 kX10_median_299 (Nat.le_of_ble_eq_true rfl) (by first | assumption | exact zx_o0 | exact zx_o _ _ _ rfl) (c_around1 h hto hof hn) ?_
  rintro _ _ ⟨rfl, hq⟩
  exact zw_iret (st := []) dX10_median_8 rfl ⟨rfl, hq⟩
/-! ===== larger, smaller ===== -/
def aLar (p : zPc) (n : Int) : zPc := (p.1 * n, p.2.1 * n, fun x y => p.2.2 (x / n) (y / n))
def sp_larger (A : zA) (to of n : Int) : Int × zA := aAns (if aPl to then if aTold A of then if 2 ≤ n ∧ n ≤ 4 then if 16 < (A.1 of.toNat).1 * n then 3 else if (A.1 of.toNat).2.1 * n ≤ 12 then 0 else 3 else 2 else 1 else 1) 0 A (1, aAct A to.toNat (aLar (A.1 of.toNat) n))
theorem zz_dv {x w n : Int} (hn : 0 < n) (hx : 0 ≤ x ∧ x < w * n) : 0 ≤ x / n ∧ x / n < w := ⟨Int.ediv_nonneg hx.1 (by omega), Int.ediv_lt_of_lt_mul hn hx.2⟩
theorem X_larger {G : zG} {B : Nat} {σ τ : zSt} {A : zA} {to of n : Int} (h : zxR B σ τ A) (hto : -2147483648 ≤ to ∧ to ≤ 2147483647) (hof : -2147483648 ≤ of ∧ of ≤ 2147483647) (hn : -2147483648 ≤ n ∧ n ≤ 2147483647) : zC G M_X10_larger [.ref B, vi to, vi of, vi n] (zxS B, σ, τ) (xQ B (sp_larger A to of n)) := by
  refine zC_of 3 rfl (Nat.le_of_ble_eq_true rfl) ?_
  have body : aPl to → aTold A of → (2 ≤ n ∧ n ≤ 4) → (¬ 16 < (A.1 of.toNat).1 * n) → ((A.1 of.toNat).2.1 * n ≤ 12) → zW G M_X10_larger (xQ B (sp_larger A to of n)) 78 [some (.ref B), some (vi to), some (vi of), some (vi n), none, none, none] [] (zxS B, zu σ B 17 0, τ) := by
    intro hc1 hc2 hc3 hc4 hc5
    have hwh := (h.p of.toNat (by omega)).wh hc2.2
    have hdr := ((h.p of.toNat (by omega)).2.2 hc2.2).2.2
    generalize hσ1 : zu σ B 17 0 = σ1
    have h17 : σ1 B 17 = 0 := by rw [← hσ1]; exact zu_eq _ _ _ _
    have hs1 : xScr B σ σ1 := by rw [← hσ1]; exact xScr.z
    have hr1 : ∀ σs, xScr B σ1 σs → σs (zpa B of.toNat) 1 = (A.1 of.toNat).1 ∧ σs (zpa B of.toNat) 2 = (A.1 of.toNat).2.1 := fun σs q => (((hs1.tr q).P h.p of.toNat (by omega)).wh hc2.2).1
    have hq6 := (zx_p6 (B := B) (i := of.toNat) (by omega))
    have g1 : (A.1 of.toNat).1 * 2 ≤ (A.1 of.toNat).1 * n := Int.mul_le_mul_of_nonneg_left hc3.1 (by omega)
    have g2 : (A.1 of.toNat).2.1 * 2 ≤ (A.1 of.toNat).2.1 * n := Int.mul_le_mul_of_nonneg_left hc3.1 (by omega)
    generalize hF : (fun x y : Int => (A.1 of.toNat).2.2 (x / n) (y / n)) = F
    have hF' : ∀ x y : Int, (A.1 of.toNat).2.2 (x / n) (y / n) = F x y := fun a b => by rw [← hF]
    have hdv := fun x w (hx : 0 ≤ x ∧ x < w * n) => zz_dv (w := w) (show 0 < n by omega) hx
    generalize hW : (A.1 of.toNat).1 * n = W at g1 hc4
    generalize hH : (A.1 of.toNat).2.1 * n = H at g2 hc5
    have dW : ∀ x, 0 ≤ x ∧ x < W → 0 ≤ x / n ∧ x / n < (A.1 of.toNat).1 := fun x hx => hdv x _ (by rw [hW]; exact hx)
    have dH : ∀ x, 0 ≤ x ∧ x < H → 0 ≤ x / n ∧ x / n < (A.1 of.toNat).2.1 := fun x hx => hdv x _ (by rw [hH]; exact hx)
    have outer : ∀ (fu : Nat) (j : Int) (σs : zSt), 0 ≤ j ∧ j ≤ H → H - j < fu → xLI B σ1 (W) (H) F (j * (W)) σs → zW G M_X10_larger (xQ B (sp_larger A to of n)) 110 [some (.ref B), some (vi to), some (vi of), some (vi n), some (.ref (zpa B of.toNat)), some (vi j), none] [] (zxS B, σs, τ) := by
      intro fu
      induction fu with
      | zero => intro j σs h1 h2; omega
      | succ fu ih =>
        intro j σs h1 h2 hl
        have inner : ∀ (fm : Nat) (i : Int) (σs : zSt), j < H → 0 ≤ i ∧ i ≤ W → W - i < fm → xLI B σ1 (W) (H) F (j * (W) + i) σs → zW G M_X10_larger (xQ B (sp_larger A to of n)) 125 [some (.ref B), some (vi to), some (vi of), some (vi n), some (.ref (zpa B of.toNat)), some (vi j), some (vi i)] [] (zxS B, σs, τ) := by
          intro fm
          induction fm with
          | zero => intro i σs h3 h4 h5; omega
          | succ fm ihm =>
            intro i σs h3 h4 h5 hl
            have hpw := hl.pw (by omega) (by omega)
            have hw1 := hl.2.2.1
            have hw2 := hl.2.2.2.1
            have hsr := hs1.tr hl.1
            refine zw_iload 127 rfl dX10_larger_125 rfl ?_
            refine zw_aload_n 128 rfl dX10_larger_127 rfl ?_
            refine zw_getr 131 rfl dX10_larger_128 fl_X10_16 (by first | assumption | exact zx_o0 | exact zx_o _ _ _ rfl) (by first | assumption | exact zx_f0 _ _ rfl | exact zx_f _ _ _ rfl) ?_
            refine zw_geti 134 rfl dX10_larger_131 fl_X10_148 (by first | assumption | exact zx_o0 | exact zx_o _ _ _ rfl) ?_
            rw [hw1]
            refine zw_icmp_ge 167 137 rfl dX10_larger_134 (by decide) (by omega) (by omega) (fun h_134 => ?_) (fun h_134 => ?_)
            · refine zw_iinc 170 rfl dX10_larger_167 (Nat.le_of_ble_eq_true rfl) rfl rfl ?_
              refine zw_goto 110 dX10_larger_170 (by decide) ?_
              refine zw_drop 6 ?_
              exact ih (j + 1) _ (by omega) (by omega) (by rw [Int.add_mul, Int.one_mul, show W = i by omega]; rw [show W = i by omega] at hl; exact hl)
            · have t1 := dW i (by omega)
              have t2 := dH j (by omega)
              refine zw_aload_n 138 rfl dX10_larger_137 rfl ?_
              refine zw_getr 141 rfl dX10_larger_138 fl_X10_16 (by first | assumption | exact zx_o0 | exact zx_o _ _ _ rfl) (by first | assumption | exact zx_f0 _ _ rfl | exact zx_f _ _ _ rfl) ?_
              refine zw_iload 143 rfl dX10_larger_141 rfl ?_
              refine zw_iload 145 rfl dX10_larger_143 rfl ?_
              refine zw_aload 147 rfl dX10_larger_145 rfl ?_
              refine zw_iload 149 rfl dX10_larger_147 rfl ?_
              refine zw_iload_n 150 rfl dX10_larger_149 rfl ?_
              refine zw_idiv 151 rfl dX10_larger_150 (by omega) (by omega) ?_
              refine zw_iload 153 rfl dX10_larger_151 rfl ?_
              refine zw_iload_n 154 rfl dX10_larger_153 rfl ?_
              refine zw_idiv 155 rfl dX10_larger_154 (by omega) (by omega) ?_
              refine zw_cVi2 158 rfl dX10_larger_155 kX10_larger_174 (Nat.le_of_ble_eq_true rfl) hq6.1 (c_shadeAt hq6 (hsr.P h.p of.toNat (by omega)).1 (by omega) (by omega)) ?_
              rw [(hsr.P h.p of.toNat (by omega)).dot hc2.2 t1 t2, hF']
              refine zw_cVv3 161 rfl dX10_larger_158 kX10_larger_184 (Nat.le_of_ble_eq_true rfl) (by first | assumption | exact zx_o0 | exact zx_o _ _ _ rfl) (c_putShade zx_work hpw (by omega) (by omega)) ?_
              rw [if_pos (by rw [zHas, hw1, hw2]; omega), hw1]
              refine zw_iinc 164 rfl dX10_larger_161 (Nat.le_of_ble_eq_true rfl) rfl rfl ?_
              refine zw_goto 125 dX10_larger_164 (by decide) ?_
              exact ihm (i + 1) _ h3 (by omega) (by omega) (by rw [← Int.add_assoc]; exact hl.put (by omega) (by omega))
        refine zw_iload 112 rfl dX10_larger_110 rfl ?_
        refine zw_aload_n 113 rfl dX10_larger_112 rfl ?_
        refine zw_getr 116 rfl dX10_larger_113 fl_X10_16 (by first | assumption | exact zx_o0 | exact zx_o _ _ _ rfl) (by first | assumption | exact zx_f0 _ _ rfl | exact zx_f _ _ _ rfl) ?_
        refine zw_geti 119 rfl dX10_larger_116 fl_X10_151 (by first | assumption | exact zx_o0 | exact zx_o _ _ _ rfl) ?_
        rw [hl.2.2.2.1]
        refine zw_icmp_ge 173 122 rfl dX10_larger_119 (by decide) (by omega) (by omega) (fun h_119 => ?_) (fun h_119 => ?_)
        · have hpic := hl.pic (by rw [show j = H by omega]; exact Int.le_refl _) (by omega) (by omega) (fun a b ha hb => by rw [← hF']; exact (hdr _ _ (dW a ha) (dH b hb)).2)
          refine zw_aload_n 174 rfl dX10_larger_173 rfl ?_
          refine zw_iload_n 175 rfl dX10_larger_174 rfl ?_
          refine zw_cVr1 178 rfl dX10_larger_175 kX10_larger_188 (Nat.le_of_ble_eq_true rfl) (by first | assumption | exact zx_o0 | exact zx_o _ _ _ rfl) (c_actOn ((hs1.tr hl.1).P h.p) ((hs1.tr hl.1).H h.hs) hpic hc1) ?_
          rintro _ _ ⟨rfl, σ2, rfl, hA⟩
          refine zw_iconst 179 rfl dX10_larger_178 ?_
          subst hF
          subst hW
          subst hH
          exact zw_zret (st := []) dX10_larger_179 rfl (by omega) (xGood (σ := σ) (τ := τ) (by rw [if_pos hc1, if_pos hc2, if_pos hc3, if_neg hc4, if_pos hc5]) rfl (h.act (hs1.tr hl.1) rfl (hl.2.1.trans h17) hA (by omega)))
        · refine zw_iconst 123 rfl dX10_larger_122 ?_
          refine zw_istore 125 rfl dX10_larger_123 (Nat.le_of_ble_eq_true rfl) rfl ?_
          exact inner (W.toNat + 1) 0 _ (by omega) (by omega) (by omega) (by rw [Int.add_zero]; exact hl)
    refine zw_aload_n 79 rfl dX10_larger_78 rfl ?_
    refine zw_getr 82 rfl dX10_larger_79 fl_X10_11 (by first | assumption | exact zx_o0 | exact zx_o _ _ _ rfl) (by first | assumption | exact zx_f0 _ _ rfl | exact zx_f _ _ _ rfl) ?_
    refine zw_iload_n 83 rfl dX10_larger_82 rfl ?_
    refine zw_aald 84 rfl dX10_larger_83 (by first | assumption | exact zx_o0 | exact zx_o _ _ _ rfl) (by omega) (by omega) (by first | assumption | exact zx_p6r (by omega)) ?_
    refine zw_astore 86 rfl dX10_larger_84 (Nat.le_of_ble_eq_true rfl) rfl ?_
    refine zw_aload_n 87 rfl dX10_larger_86 rfl ?_
    refine zw_getr 90 rfl dX10_larger_87 fl_X10_16 (by first | assumption | exact zx_o0 | exact zx_o _ _ _ rfl) (by first | assumption | exact zx_f0 _ _ rfl | exact zx_f _ _ _ rfl) ?_
    refine zw_aload 92 rfl dX10_larger_90 rfl ?_
    refine zw_geti 95 rfl dX10_larger_92 fl_X10_148 hq6.1 ?_
    rw [(hr1 σ1 xScr.rf).1]
    refine zw_iload_n 96 rfl dX10_larger_95 rfl ?_
    refine zw_imul 97 rfl dX10_larger_96 ?_
    rw [hW]
    refine zw_aload 99 rfl dX10_larger_97 rfl ?_
    refine zw_geti 102 rfl dX10_larger_99 fl_X10_151 hq6.1 ?_
    rw [(hr1 σ1 xScr.rf).2]
    refine zw_iload_n 103 rfl dX10_larger_102 rfl ?_
    refine zw_imul 104 rfl dX10_larger_103 ?_
    rw [hH]
    refine zw_cVv2 107 rfl dX10_larger_104 kX10_larger_194 (Nat.le_of_ble_eq_true rfl) (by first | assumption | exact zx_o0 | exact zx_o _ _ _ rfl) (c_resize (zx_o 2 5 0 rfl) (by omega) (by omega)) ?_
    refine zw_iconst 108 rfl dX10_larger_107 ?_
    refine zw_istore 110 rfl dX10_larger_108 (Nat.le_of_ble_eq_true rfl) rfl ?_
    rw [zhold_in (by omega), zhold_in (by omega)]
    exact outer (H.toNat + 1) 0 _ (by omega) (by omega) (by rw [Int.zero_mul]; exact xLI.start)
  have J : ∀ v : Int, v = (if aPl to then if aTold A of then if 2 ≤ n ∧ n ≤ 4 then if 16 < (A.1 of.toNat).1 * n then 3 else if (A.1 of.toNat).2.1 * n ≤ 12 then 0 else 3 else 2 else 1 else 1) → zW G M_X10_larger (xQ B (sp_larger A to of n)) 70 [some (.ref B), some (vi to), some (vi of), some (vi n), none, none, none] [vi v, .ref B] (zxS B, σ, τ) := by
    intro v hv

    refine zw_cVi1 73 rfl dX10_larger_70 kX10_larger_105 (Nat.le_of_ble_eq_true rfl) (by first | assumption | exact zx_o0 | exact zx_o _ _ _ rfl) (c_refused (by rw [hv]; (repeat' split) <;> omega)) ?_
    refine zw_if_eqB 78 76 rfl dX10_larger_73 (by decide) (fun h_73 => ?_) (fun h_73 => ?_)
    · have hc1 : aPl to := Decidable.byContradiction fun q => by rw [if_neg q] at hv; (try split at hv) <;> omega
      rw [if_pos hc1] at hv
      have hc2 : aTold A of := Decidable.byContradiction fun q => by rw [if_neg q] at hv; (try split at hv) <;> omega
      rw [if_pos hc2] at hv
      have hc3 : 2 ≤ n ∧ n ≤ 4 := Decidable.byContradiction fun q => by rw [if_neg q] at hv; (try split at hv) <;> omega
      rw [if_pos hc3] at hv
      have hc4 : ¬ 16 < (A.1 of.toNat).1 * n := fun q => by rw [if_pos q] at hv; omega
      rw [if_neg hc4] at hv
      have hc5 : (A.1 of.toNat).2.1 * n ≤ 12 := Decidable.byContradiction fun q => by rw [if_neg q] at hv; omega
      rw [if_pos hc5] at hv
      subst hv
      exact body hc1 hc2 hc3 hc4 hc5
    · refine zw_iconst 77 rfl dX10_larger_76 ?_
      subst hv
      exact zw_zret (st := []) dX10_larger_77 rfl (by omega) (xRef h h_73 (by (repeat' split) <;> omega))
  refine zw_aload_n 1 rfl dX10_larger_0 rfl ?_
  refine zw_iload_n 2 rfl dX10_larger_1 rfl ?_
  refine zw_cSi1 5 rfl dX10_larger_2 kX10_larger_191 (Nat.le_of_ble_eq_true rfl) (c_isPlace hto) ?_
  refine zw_if_eqB 16 8 rfl dX10_larger_5 (by decide) (fun h_5 => ?_) (fun h_5 => ?_)
  · refine zw_iconst 17 rfl dX10_larger_16 ?_
    refine zw_goto 70 dX10_larger_17 (by decide) ?_
    exact J _ (by simp only [if_neg h_5])
  · refine zw_aload_n 9 rfl dX10_larger_8 rfl ?_
    refine zw_iload_n 10 rfl dX10_larger_9 rfl ?_
    refine zw_cVi1 13 rfl dX10_larger_10 kX10_larger_145 (Nat.le_of_ble_eq_true rfl) (by first | assumption | exact zx_o0 | exact zx_o _ _ _ rfl) (c_told h.p hof) ?_
    refine zw_if_neB 20 16 rfl dX10_larger_13 (by decide) (fun h_13 => ?_) (fun h_13 => ?_)
    · refine zw_iload_n 21 rfl dX10_larger_20 rfl ?_
      refine zw_iconst 22 rfl dX10_larger_21 ?_
      refine zw_iconst 23 rfl dX10_larger_22 ?_
      refine zw_cSi3 26 rfl dX10_larger_23 kX10_larger_101 (Nat.le_of_ble_eq_true rfl) (c_within (by omega) (by omega) (by omega)) ?_
      refine zw_if_neB 33 29 rfl dX10_larger_26 (by decide) (fun h_26 => ?_) (fun h_26 => ?_)
      · have hwh := (h.p of.toNat (by omega)).wh h_13.2
        have gw : (A.1 of.toNat).1 * n ≤ 16 * n := Int.mul_le_mul_of_nonneg_right (by omega) (by omega)
        have gh : (A.1 of.toNat).2.1 * n ≤ 12 * n := Int.mul_le_mul_of_nonneg_right (by omega) (by omega)
        have gw0 : 0 ≤ (A.1 of.toNat).1 * n := Int.mul_nonneg (by omega) (by omega)
        have gh0 : 0 ≤ (A.1 of.toNat).2.1 * n := Int.mul_nonneg (by omega) (by omega)
        refine zw_aload_n 34 rfl dX10_larger_33 rfl ?_
        refine zw_getr 37 rfl dX10_larger_34 fl_X10_11 (by first | assumption | exact zx_o0 | exact zx_o _ _ _ rfl) (by first | assumption | exact zx_f0 _ _ rfl | exact zx_f _ _ _ rfl) ?_
        refine zw_iload_n 38 rfl dX10_larger_37 rfl ?_
        refine zw_aald 39 rfl dX10_larger_38 (by first | assumption | exact zx_o0 | exact zx_o _ _ _ rfl) (by omega) (by omega) (by first | assumption | exact zx_p6r (by omega)) ?_
        refine zw_geti 42 rfl dX10_larger_39 fl_X10_148 (zx_p6 (by omega)).1 ?_
        rw [hwh.1.1]
        refine zw_iload_n 43 rfl dX10_larger_42 rfl ?_
        refine zw_imul 44 rfl dX10_larger_43 ?_
        refine zw_bipush 46 rfl dX10_larger_44 rfl ?_
        refine zw_icmp_gt 65 49 rfl dX10_larger_46 (by decide) (by omega) (by omega) (fun h_46 => ?_) (fun h_46 => ?_)
        · refine zw_iconst 66 rfl dX10_larger_65 ?_
          refine zw_goto 70 dX10_larger_66 (by decide) ?_
          exact J _ (by simp only [if_pos h_5, if_pos h_13, if_pos h_26, if_pos h_46])
        · refine zw_aload_n 50 rfl dX10_larger_49 rfl ?_
          refine zw_getr 53 rfl dX10_larger_50 fl_X10_11 (by first | assumption | exact zx_o0 | exact zx_o _ _ _ rfl) (by first | assumption | exact zx_f0 _ _ rfl | exact zx_f _ _ _ rfl) ?_
          refine zw_iload_n 54 rfl dX10_larger_53 rfl ?_
          refine zw_aald 55 rfl dX10_larger_54 (by first | assumption | exact zx_o0 | exact zx_o _ _ _ rfl) (by omega) (by omega) (by first | assumption | exact zx_p6r (by omega)) ?_
          refine zw_geti 58 rfl dX10_larger_55 fl_X10_151 (zx_p6 (by omega)).1 ?_
          rw [hwh.1.2]
          refine zw_iload_n 59 rfl dX10_larger_58 rfl ?_
          refine zw_imul 60 rfl dX10_larger_59 ?_
          refine zw_bipush 62 rfl dX10_larger_60 rfl ?_
          refine zw_icmp_le 69 65 rfl dX10_larger_62 (by decide) (by omega) (by omega) (fun h_62 => ?_) (fun h_62 => ?_)
          · refine zw_iconst 70 rfl dX10_larger_69 ?_
            exact J _ (by simp only [if_pos h_5, if_pos h_13, if_pos h_26, if_neg h_46, if_pos h_62])
          · refine zw_iconst 66 rfl dX10_larger_65 ?_
            refine zw_goto 70 dX10_larger_66 (by decide) ?_
            exact J _ (by simp only [if_pos h_5, if_pos h_13, if_pos h_26, if_neg h_46, if_neg h_62])
      · refine zw_iconst 30 rfl dX10_larger_29 ?_
        refine zw_goto 70 dX10_larger_30 (by decide) ?_
        exact J _ (by simp only [if_pos h_5, if_pos h_13, if_neg h_26])
    · refine zw_iconst 17 rfl dX10_larger_16 ?_
      refine zw_goto 70 dX10_larger_17 (by decide) ?_
      exact J _ (by simp only [if_pos h_5, if_neg h_13])
