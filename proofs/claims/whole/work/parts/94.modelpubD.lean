/-! ===== levels, mix, above, larger ===== -/
theorem Y_levels {G : zG} {C : Nat} {σ τ : zSt} {A : zA} {to of m : Int} (h : zmR C σ τ A) (hto : -2147483648 ≤ to ∧ to ≤ 2147483647) (hof : -2147483648 ≤ of ∧ of ≤ 2147483647) (hm : -2147483648 ≤ m ∧ m ≤ 2147483647) : zC G M_X11_levels [.ref C, vi to, vi of, vi m] (zmS C, σ, τ) (mQ C (sp_levels A to of m)) := by
  have hP := (mThrown (v := 0)).P h.p
  refine zC_of 2 rfl (Nat.le_of_ble_eq_true rfl) ?_
  by_cases hc : aPl to ∧ aTold A of ∧ 2 ≤ m ∧ m ≤ 64
  · obtain ⟨hc1, hc2, hc3⟩ := hc
    have hq := h.p.pc hc2
    have hq1 := hP.pc hc2
    have hw := hq.wh
    have key : ∀ σs : zSt, mNw C σ ((A.1 of.toNat).1) ((A.1 of.toNat).1) ((A.1 of.toNat).2.1) ((aLev (A.1 of.toNat) m).2.2) mAt 0 0 σs → zW G M_X11_levels (mQ C (sp_levels A to of m)) 59 [some (.ref C), some (vi to), some (vi of), some (vi m), some (vi (0 : Nat)), none] [] (zmS C, σs, τ) := by
      refine zrows (w := ((A.1 of.toNat).1).toNat) (h := ((A.1 of.toNat).2.1).toNat) (O := fun j => ∀ σs : zSt, mNw C σ ((A.1 of.toNat).1) ((A.1 of.toNat).1) ((A.1 of.toNat).2.1) ((aLev (A.1 of.toNat) m).2.2) mAt j 0 σs → zW G M_X11_levels (mQ C (sp_levels A to of m)) 59 [some (.ref C), some (vi to), some (vi of), some (vi m), some (vi j), none] [] (zmS C, σs, τ)) (N := fun j i => ∀ σs : zSt, mNw C σ ((A.1 of.toNat).1) ((A.1 of.toNat).1) ((A.1 of.toNat).2.1) ((aLev (A.1 of.toNat) m).2.2) mAt j i σs → zW G M_X11_levels (mQ C (sp_levels A to of m)) 72 [some (.ref C), some (vi to), some (vi of), some (vi m), some (vi j), some (vi i)] [] (zmS C, σs, τ)) ?_ ?_ ?_ ?_
      · intro σs hl
        have hpic := hl.pic (by omega) (by omega) (by omega) (fun x y hx hy => (zz_lev (hq.d hx hy) hc3).2.2)
        refine zw_iload 61 rfl dX11_levels_59 rfl ?_
        refine zw_aload_n 62 rfl dX11_levels_61 rfl ?_
        refine zw_iload_n 63 rfl dX11_levels_62 rfl ?_
        refine zw_cVi1 66 rfl dX11_levels_63 kX11_levels_176 (Nat.le_of_ble_eq_true rfl) (by first | assumption | exact zm_o0 | exact zm_o _ _ _ rfl) (m_highP (hq.s (by omega) hl.1)) ?_
        refine zw_icmp_ge 127 69 rfl dX11_levels_66 (by decide) (by omega) (by omega) (fun h_66 => ?_) (fun h_66 => ?_)
        · refine zw_aload_n 128 rfl dX11_levels_127 rfl ?_
          refine zw_iload_n 129 rfl dX11_levels_128 rfl ?_
          refine zw_iload_n 130 rfl dX11_levels_129 rfl ?_
          refine zw_cVr2 133 rfl dX11_levels_130 kX11_levels_322 (Nat.le_of_ble_eq_true rfl) (by first | assumption | exact zm_o0 | exact zm_o _ _ _ rfl) (m_ends (hl.1.s.P h.p) (hl.1.s.H h.hs) hpic (by show 0 < (A.1 of.toNat).1; omega) hc1 (hq.s (by omega) hl.1) rfl rfl) ?_
          rintro _ _ ⟨rfl, σ2, rfl, hA⟩
          exact zw_iret (st := []) dX11_levels_133 rfl (mAct h hl.1.s mScT.rf hA (by simp only [if_pos hc1, if_pos hc2, if_pos hc3]))
        · omega
      · intro j hj hN
        intro σs hl
        refine zw_iload 61 rfl dX11_levels_59 rfl ?_
        refine zw_aload_n 62 rfl dX11_levels_61 rfl ?_
        refine zw_iload_n 63 rfl dX11_levels_62 rfl ?_
        refine zw_cVi1 66 rfl dX11_levels_63 kX11_levels_176 (Nat.le_of_ble_eq_true rfl) (by first | assumption | exact zm_o0 | exact zm_o _ _ _ rfl) (m_highP (hq.s (by omega) hl.1)) ?_
        refine zw_icmp_ge 127 69 rfl dX11_levels_66 (by decide) (by omega) (by omega) (fun h_66 => ?_) (fun h_66 => ?_)
        · omega
        · refine zw_iconst 70 rfl dX11_levels_69 ?_
          refine zw_istore 72 rfl dX11_levels_70 (Nat.le_of_ble_eq_true rfl) rfl ?_
          exact hN σs hl
      · intro j i hj hi hN
        intro σs hl
        have hz := zz_lev (hq.d (x := i) (y := j) (by omega) (by omega)) hc3
        refine zw_iload 74 rfl dX11_levels_72 rfl ?_
        refine zw_aload_n 75 rfl dX11_levels_74 rfl ?_
        refine zw_iload_n 76 rfl dX11_levels_75 rfl ?_
        refine zw_cVi1 79 rfl dX11_levels_76 kX11_levels_170 (Nat.le_of_ble_eq_true rfl) (by first | assumption | exact zm_o0 | exact zm_o _ _ _ rfl) (m_wideP (hq.s (by omega) hl.1)) ?_
        refine zw_icmp_ge 121 82 rfl dX11_levels_79 (by decide) (by omega) (by omega) (fun h_79 => ?_) (fun h_79 => ?_)
        · omega
        · refine zw_aload_n 83 rfl dX11_levels_82 rfl ?_
          refine zw_bipush 85 rfl dX11_levels_83 rfl ?_
          refine zw_iload 87 rfl dX11_levels_85 rfl ?_
          refine zw_iload 89 rfl dX11_levels_87 rfl ?_
          refine zw_sipush 92 rfl dX11_levels_89 rfl ?_
          refine zw_aload_n 93 rfl dX11_levels_92 rfl ?_
          refine zw_iload_n 94 rfl dX11_levels_93 rfl ?_
          refine zw_iload 96 rfl dX11_levels_94 rfl ?_
          refine zw_iload 98 rfl dX11_levels_96 rfl ?_
          refine zw_cVi3 101 rfl dX11_levels_98 kX11_levels_182 (Nat.le_of_ble_eq_true rfl) (by first | assumption | exact zm_o0 | exact zm_o _ _ _ rfl) (m_dotP (hq.s (by omega) hl.1) (by omega) (by omega)) ?_
          refine zw_iload_n 102 rfl dX11_levels_101 rfl ?_
          refine zw_imul 103 rfl dX11_levels_102 ?_
          refine zw_sipush 106 rfl dX11_levels_103 rfl ?_
          refine zw_idiv 107 rfl dX11_levels_106 (by omega) (by omega) ?_
          refine zw_imul 108 rfl dX11_levels_107 ?_
          refine zw_iload_n 109 rfl dX11_levels_108 rfl ?_
          refine zw_iconst 110 rfl dX11_levels_109 ?_
          refine zw_isub 111 rfl dX11_levels_110 ?_
          refine zw_idiv 112 rfl dX11_levels_111 (by omega) (by omega) ?_
          refine zw_cVv4 115 rfl dX11_levels_112 kX11_levels_193 (Nat.le_of_ble_eq_true rfl) (by first | assumption | exact zm_o0 | exact zm_o _ _ _ rfl) (m_putsN (by omega) (by omega)) ?_
          refine zw_iinc 118 rfl dX11_levels_115 (Nat.le_of_ble_eq_true rfl) rfl rfl ?_
          refine zw_goto 72 dX11_levels_118 (by decide) ?_
          exact hN _ (hl.put1 (by omega) (by omega) (by omega) (by omega) (by omega) (rfl))
      · intro j hj hO
        intro σs hl
        refine zw_iload 74 rfl dX11_levels_72 rfl ?_
        refine zw_aload_n 75 rfl dX11_levels_74 rfl ?_
        refine zw_iload_n 76 rfl dX11_levels_75 rfl ?_
        refine zw_cVi1 79 rfl dX11_levels_76 kX11_levels_170 (Nat.le_of_ble_eq_true rfl) (by first | assumption | exact zm_o0 | exact zm_o _ _ _ rfl) (m_wideP (hq.s (by omega) hl.1)) ?_
        refine zw_icmp_ge 121 82 rfl dX11_levels_79 (by decide) (by omega) (by omega) (fun h_79 => ?_) (fun h_79 => ?_)
        · refine zw_iinc 124 rfl dX11_levels_121 (Nat.le_of_ble_eq_true rfl) rfl rfl ?_
          refine zw_goto 59 dX11_levels_124 (by decide) ?_
          refine zw_drop 5 ?_
          exact hO σs hl.row
        · omega
    refine zw_aload_n 1 rfl dX11_levels_0 rfl ?_
    refine zw_iconst 2 rfl dX11_levels_1 ?_
    refine zw_puti 5 rfl dX11_levels_2 fp_X11_85 (by first | assumption | exact zm_o0 | exact zm_o _ _ _ rfl) ?_
    refine zw_iload_n 6 rfl dX11_levels_5 rfl ?_
    refine zw_cSi1 9 rfl dX11_levels_6 kX11_levels_316 (Nat.le_of_ble_eq_true rfl) (m_isTo (by omega)) ?_
    refine zw_if_eqB 20 12 rfl dX11_levels_9 (by decide) (fun h_9 => ?_) (fun h_9 => ?_)
    · first | exact absurd hc1 h_9 | exact absurd hc2 h_17
    · refine zw_aload_n 13 rfl dX11_levels_12 rfl ?_
      refine zw_iload_n 14 rfl dX11_levels_13 rfl ?_
      refine zw_cVi1 17 rfl dX11_levels_14 kX11_levels_173 (Nat.le_of_ble_eq_true rfl) (by first | assumption | exact zm_o0 | exact zm_o _ _ _ rfl) (m_isPicture hP hof) ?_
      refine zw_if_neB 26 20 rfl dX11_levels_17 (by decide) (fun h_17 => ?_) (fun h_17 => ?_)
      · refine zw_iload_n 27 rfl dX11_levels_26 rfl ?_
        refine zw_iconst 28 rfl dX11_levels_27 ?_
        refine zw_bipush 30 rfl dX11_levels_28 rfl ?_
        refine zw_cSi3 33 rfl dX11_levels_30 kX11_levels_106 (Nat.le_of_ble_eq_true rfl) (m_in (by omega) (by omega) (by omega)) ?_
        refine zw_if_neB 42 36 rfl dX11_levels_33 (by decide) (fun h_33 => ?_) (fun h_33 => ?_)
        · refine zw_aload_n 43 rfl dX11_levels_42 rfl ?_
          refine zw_aload_n 44 rfl dX11_levels_43 rfl ?_
          refine zw_iload_n 45 rfl dX11_levels_44 rfl ?_
          refine zw_cVi1 48 rfl dX11_levels_45 kX11_levels_170 (Nat.le_of_ble_eq_true rfl) (by first | assumption | exact zm_o0 | exact zm_o _ _ _ rfl) (m_wideP hq1) ?_
          refine zw_aload_n 49 rfl dX11_levels_48 rfl ?_
          refine zw_iload_n 50 rfl dX11_levels_49 rfl ?_
          refine zw_cVi1 53 rfl dX11_levels_50 kX11_levels_176 (Nat.le_of_ble_eq_true rfl) (by first | assumption | exact zm_o0 | exact zm_o _ _ _ rfl) (m_highP hq1) ?_
          refine zw_cVv2 56 rfl dX11_levels_53 kX11_levels_200 (Nat.le_of_ble_eq_true rfl) (by first | assumption | exact zm_o0 | exact zm_o _ _ _ rfl) m_begins ?_
          refine zw_iconst 57 rfl dX11_levels_56 ?_
          refine zw_istore 59 rfl dX11_levels_57 (Nat.le_of_ble_eq_true rfl) rfl ?_
          exact key _ (mNw.start (mSc2.rf.u (by unfold mKey2 mKey; omega)))
        · exact absurd hc3 h_33
      · first | exact absurd hc1 h_9 | exact absurd hc2 h_17
  refine zw_aload_n 1 rfl dX11_levels_0 rfl ?_
  refine zw_iconst 2 rfl dX11_levels_1 ?_
  refine zw_puti 5 rfl dX11_levels_2 fp_X11_85 (by first | assumption | exact zm_o0 | exact zm_o _ _ _ rfl) ?_
  refine zw_iload_n 6 rfl dX11_levels_5 rfl ?_
  refine zw_cSi1 9 rfl dX11_levels_6 kX11_levels_316 (Nat.le_of_ble_eq_true rfl) (m_isTo (by omega)) ?_
  refine zw_if_eqB 20 12 rfl dX11_levels_9 (by decide) (fun h_9 => ?_) (fun h_9 => ?_)
  · refine zw_aload_n 21 rfl dX11_levels_20 rfl ?_
    refine zw_iconst 22 rfl dX11_levels_21 ?_
    refine zw_cVi1 25 rfl dX11_levels_22 kX11_levels_147 (Nat.le_of_ble_eq_true rfl) (by first | assumption | exact zm_o0 | exact zm_o _ _ _ rfl) m_refused ?_
    exact zw_iret (st := []) dX11_levels_25 rfl (mRef h mThrown mScT.rf (by simp only [if_neg h_9, if_true, if_false]) (by omega))
  · refine zw_aload_n 13 rfl dX11_levels_12 rfl ?_
    refine zw_iload_n 14 rfl dX11_levels_13 rfl ?_
    refine zw_cVi1 17 rfl dX11_levels_14 kX11_levels_173 (Nat.le_of_ble_eq_true rfl) (by first | assumption | exact zm_o0 | exact zm_o _ _ _ rfl) (m_isPicture hP hof) ?_
    refine zw_if_neB 26 20 rfl dX11_levels_17 (by decide) (fun h_17 => ?_) (fun h_17 => ?_)
    · refine zw_iload_n 27 rfl dX11_levels_26 rfl ?_
      refine zw_iconst 28 rfl dX11_levels_27 ?_
      refine zw_bipush 30 rfl dX11_levels_28 rfl ?_
      refine zw_cSi3 33 rfl dX11_levels_30 kX11_levels_106 (Nat.le_of_ble_eq_true rfl) (m_in (by omega) (by omega) (by omega)) ?_
      refine zw_if_neB 42 36 rfl dX11_levels_33 (by decide) (fun h_33 => ?_) (fun h_33 => ?_)
      · exact absurd ⟨h_9, h_17, h_33⟩ hc
      · refine zw_aload_n 37 rfl dX11_levels_36 rfl ?_
        refine zw_iconst 38 rfl dX11_levels_37 ?_
        refine zw_cVi1 41 rfl dX11_levels_38 kX11_levels_147 (Nat.le_of_ble_eq_true rfl) (by first | assumption | exact zm_o0 | exact zm_o _ _ _ rfl) m_refused ?_
        exact zw_iret (st := []) dX11_levels_41 rfl (mRef h mThrown mScT.rf (by simp only [if_pos h_9, if_pos h_17, if_neg h_33, if_true, if_false]) (by omega))
    · refine zw_aload_n 21 rfl dX11_levels_20 rfl ?_
      refine zw_iconst 22 rfl dX11_levels_21 ?_
      refine zw_cVi1 25 rfl dX11_levels_22 kX11_levels_147 (Nat.le_of_ble_eq_true rfl) (by first | assumption | exact zm_o0 | exact zm_o _ _ _ rfl) m_refused ?_
      exact zw_iret (st := []) dX11_levels_25 rfl (mRef h mThrown mScT.rf (by simp only [if_pos h_9, if_neg h_17, if_true, if_false]) (by omega))
theorem Y_mix {G : zG} {C : Nat} {σ τ : zSt} {A : zA} {to of ot m : Int} (h : zmR C σ τ A) (hto : -2147483648 ≤ to ∧ to ≤ 2147483647) (hof : -2147483648 ≤ of ∧ of ≤ 2147483647) (hot : -2147483648 ≤ ot ∧ ot ≤ 2147483647) (hm : -2147483648 ≤ m ∧ m ≤ 2147483647) : zC G M_X11_mix [.ref C, vi to, vi of, vi ot, vi m] (zmS C, σ, τ) (mQ C (sp_mix A to of ot m)) := by
  have hP := (mThrown (v := 0)).P h.p
  refine zC_of 2 rfl (Nat.le_of_ble_eq_true rfl) ?_
  by_cases hc : aPl to ∧ aTold A of ∧ aTold A ot ∧ (0 ≤ m ∧ m ≤ 100) ∧ aLike A of ot
  · obtain ⟨hc1, hc2, hc3, hc4, hc5⟩ := hc
    have hq := h.p.pc hc2
    have ho := h.p.pc hc3
    have hq1 := hP.pc hc2
    have ho1 := hP.pc hc3
    have hw := hq.wh
    have hz : ∀ x y : Int, 0 ≤ x ∧ x < (A.1 of.toNat).1 → 0 ≤ y ∧ y < (A.1 of.toNat).2.1 → 0 ≤ m * (A.1 of.toNat).2.2 x y + (100 - m) * (A.1 ot.toNat).2.2 x y ∧ m * (A.1 of.toNat).2.2 x y + (100 - m) * (A.1 ot.toNat).2.2 x y ≤ 255 * 100 := fun x y hx hy => zz_mix (hq.d hx hy) (ho.d (by omega) (by omega)) hc4
    have key : ∀ σs : zSt, mNw C σ ((A.1 of.toNat).1) ((A.1 of.toNat).1) ((A.1 of.toNat).2.1) ((aMix (A.1 of.toNat) (A.1 ot.toNat) m).2.2) mAt 0 0 σs → zW G M_X11_mix (mQ C (sp_mix A to of ot m)) 83 [some (.ref C), some (vi to), some (vi of), some (vi ot), some (vi m), some (vi (0 : Nat)), none] [] (zmS C, σs, τ) := by
      refine zrows (w := ((A.1 of.toNat).1).toNat) (h := ((A.1 of.toNat).2.1).toNat) (O := fun j => ∀ σs : zSt, mNw C σ ((A.1 of.toNat).1) ((A.1 of.toNat).1) ((A.1 of.toNat).2.1) ((aMix (A.1 of.toNat) (A.1 ot.toNat) m).2.2) mAt j 0 σs → zW G M_X11_mix (mQ C (sp_mix A to of ot m)) 83 [some (.ref C), some (vi to), some (vi of), some (vi ot), some (vi m), some (vi j), none] [] (zmS C, σs, τ)) (N := fun j i => ∀ σs : zSt, mNw C σ ((A.1 of.toNat).1) ((A.1 of.toNat).1) ((A.1 of.toNat).2.1) ((aMix (A.1 of.toNat) (A.1 ot.toNat) m).2.2) mAt j i σs → zW G M_X11_mix (mQ C (sp_mix A to of ot m)) 96 [some (.ref C), some (vi to), some (vi of), some (vi ot), some (vi m), some (vi j), some (vi i)] [] (zmS C, σs, τ)) ?_ ?_ ?_ ?_
      · intro σs hl
        have hpic := hl.pic (by omega) (by omega) (by omega) (fun x y hx hy => znear_r (m := 255) (hz x y hx hy).1 (by omega) (hz x y hx hy).2)
        refine zw_iload 85 rfl dX11_mix_83 rfl ?_
        refine zw_aload_n 86 rfl dX11_mix_85 rfl ?_
        refine zw_iload_n 87 rfl dX11_mix_86 rfl ?_
        refine zw_cVi1 90 rfl dX11_mix_87 kX11_mix_176 (Nat.le_of_ble_eq_true rfl) (by first | assumption | exact zm_o0 | exact zm_o _ _ _ rfl) (m_highP (hq.s (by omega) hl.1)) ?_
        refine zw_icmp_ge 163 93 rfl dX11_mix_90 (by decide) (by omega) (by omega) (fun h_90 => ?_) (fun h_90 => ?_)
        · refine zw_aload_n 164 rfl dX11_mix_163 rfl ?_
          refine zw_iload_n 165 rfl dX11_mix_164 rfl ?_
          refine zw_cVr1 168 rfl dX11_mix_165 kX11_mix_203 (Nat.le_of_ble_eq_true rfl) (by first | assumption | exact zm_o0 | exact zm_o _ _ _ rfl) (m_becomes (hl.1.s.P h.p) (hl.1.s.H h.hs) hpic hc1) ?_
          rintro _ _ ⟨rfl, σ2, rfl, hA⟩
          refine zw_aload_n 169 rfl dX11_mix_168 rfl ?_
          refine zw_iconst 170 rfl dX11_mix_169 ?_
          refine zw_cVi1 173 rfl dX11_mix_170 kX11_mix_197 (Nat.le_of_ble_eq_true rfl) (by first | assumption | exact zm_o0 | exact zm_o _ _ _ rfl) m_yes ?_
          exact zw_zret (st := []) dX11_mix_173 rfl (by omega) (mAct h hl.1.s mScT.rf hA (by simp only [if_pos hc1, if_pos hc2, if_pos hc3, if_pos hc4, if_pos hc5]))
        · omega
      · intro j hj hN
        intro σs hl
        refine zw_iload 85 rfl dX11_mix_83 rfl ?_
        refine zw_aload_n 86 rfl dX11_mix_85 rfl ?_
        refine zw_iload_n 87 rfl dX11_mix_86 rfl ?_
        refine zw_cVi1 90 rfl dX11_mix_87 kX11_mix_176 (Nat.le_of_ble_eq_true rfl) (by first | assumption | exact zm_o0 | exact zm_o _ _ _ rfl) (m_highP (hq.s (by omega) hl.1)) ?_
        refine zw_icmp_ge 163 93 rfl dX11_mix_90 (by decide) (by omega) (by omega) (fun h_90 => ?_) (fun h_90 => ?_)
        · omega
        · refine zw_iconst 94 rfl dX11_mix_93 ?_
          refine zw_istore 96 rfl dX11_mix_94 (Nat.le_of_ble_eq_true rfl) rfl ?_
          exact hN σs hl
      · intro j i hj hi hN
        intro σs hl
        have hz1 := hz i j (by omega) (by omega)
        refine zw_iload 98 rfl dX11_mix_96 rfl ?_
        refine zw_aload_n 99 rfl dX11_mix_98 rfl ?_
        refine zw_iload_n 100 rfl dX11_mix_99 rfl ?_
        refine zw_cVi1 103 rfl dX11_mix_100 kX11_mix_170 (Nat.le_of_ble_eq_true rfl) (by first | assumption | exact zm_o0 | exact zm_o _ _ _ rfl) (m_wideP (hq.s (by omega) hl.1)) ?_
        refine zw_icmp_ge 157 106 rfl dX11_mix_103 (by decide) (by omega) (by omega) (fun h_103 => ?_) (fun h_103 => ?_)
        · omega
        · refine zw_aload_n 107 rfl dX11_mix_106 rfl ?_
          refine zw_bipush 109 rfl dX11_mix_107 rfl ?_
          refine zw_iload 111 rfl dX11_mix_109 rfl ?_
          refine zw_iload 113 rfl dX11_mix_111 rfl ?_
          refine zw_iload 115 rfl dX11_mix_113 rfl ?_
          refine zw_aload_n 116 rfl dX11_mix_115 rfl ?_
          refine zw_iload_n 117 rfl dX11_mix_116 rfl ?_
          refine zw_iload 119 rfl dX11_mix_117 rfl ?_
          refine zw_iload 121 rfl dX11_mix_119 rfl ?_
          refine zw_cVi3 124 rfl dX11_mix_121 kX11_mix_182 (Nat.le_of_ble_eq_true rfl) (by first | assumption | exact zm_o0 | exact zm_o _ _ _ rfl) (m_dotP (hq.s (by omega) hl.1) (by omega) (by omega)) ?_
          refine zw_imul 125 rfl dX11_mix_124 ?_
          refine zw_bipush 127 rfl dX11_mix_125 rfl ?_
          refine zw_iload 129 rfl dX11_mix_127 rfl ?_
          refine zw_isub 130 rfl dX11_mix_129 ?_
          refine zw_aload_n 131 rfl dX11_mix_130 rfl ?_
          refine zw_iload_n 132 rfl dX11_mix_131 rfl ?_
          refine zw_iload 134 rfl dX11_mix_132 rfl ?_
          refine zw_iload 136 rfl dX11_mix_134 rfl ?_
          refine zw_cVi3 139 rfl dX11_mix_136 kX11_mix_182 (Nat.le_of_ble_eq_true rfl) (by first | assumption | exact zm_o0 | exact zm_o _ _ _ rfl) (m_dotP (ho.s (by omega) hl.1) (by omega) (by omega)) ?_
          refine zw_imul 140 rfl dX11_mix_139 ?_
          refine zw_iadd 141 rfl dX11_mix_140 ?_
          refine zw_i2l 142 rfl dX11_mix_141 (by omega) ?_
          refine zw_ldc2_w 145 rfl dX11_mix_142 kX11_325 ?_
          refine zw_cSi2 148 rfl dX11_mix_145 kX11_mix_295 (Nat.le_of_ble_eq_true rfl) (m_nearest (by omega) (by omega)) ?_
          refine zw_cVv4 151 rfl dX11_mix_148 kX11_mix_193 (Nat.le_of_ble_eq_true rfl) (by first | assumption | exact zm_o0 | exact zm_o _ _ _ rfl) (m_putsN (by omega) (by omega)) ?_
          refine zw_iinc 154 rfl dX11_mix_151 (Nat.le_of_ble_eq_true rfl) rfl rfl ?_
          refine zw_goto 96 dX11_mix_154 (by decide) ?_
          exact hN _ (hl.put1 (by omega) (by omega) (by omega) (by omega) (by omega) (rfl))
      · intro j hj hO
        intro σs hl
        refine zw_iload 98 rfl dX11_mix_96 rfl ?_
        refine zw_aload_n 99 rfl dX11_mix_98 rfl ?_
        refine zw_iload_n 100 rfl dX11_mix_99 rfl ?_
        refine zw_cVi1 103 rfl dX11_mix_100 kX11_mix_170 (Nat.le_of_ble_eq_true rfl) (by first | assumption | exact zm_o0 | exact zm_o _ _ _ rfl) (m_wideP (hq.s (by omega) hl.1)) ?_
        refine zw_icmp_ge 157 106 rfl dX11_mix_103 (by decide) (by omega) (by omega) (fun h_103 => ?_) (fun h_103 => ?_)
        · refine zw_iinc 160 rfl dX11_mix_157 (Nat.le_of_ble_eq_true rfl) rfl rfl ?_
          refine zw_goto 83 dX11_mix_160 (by decide) ?_
          refine zw_drop 6 ?_
          exact hO σs hl.row
        · omega
    refine zw_aload_n 1 rfl dX11_mix_0 rfl ?_
    refine zw_iconst 2 rfl dX11_mix_1 ?_
    refine zw_puti 5 rfl dX11_mix_2 fp_X11_85 (by first | assumption | exact zm_o0 | exact zm_o _ _ _ rfl) ?_
    refine zw_iload_n 6 rfl dX11_mix_5 rfl ?_
    refine zw_cSi1 9 rfl dX11_mix_6 kX11_mix_316 (Nat.le_of_ble_eq_true rfl) (m_isTo (by omega)) ?_
    refine zw_if_eqB 28 12 rfl dX11_mix_9 (by decide) (fun h_9 => ?_) (fun h_9 => ?_)
    · first | exact absurd hc1 h_9 | exact absurd hc2 h_17 | exact absurd hc3 h_25
    · refine zw_aload_n 13 rfl dX11_mix_12 rfl ?_
      refine zw_iload_n 14 rfl dX11_mix_13 rfl ?_
      refine zw_cVi1 17 rfl dX11_mix_14 kX11_mix_173 (Nat.le_of_ble_eq_true rfl) (by first | assumption | exact zm_o0 | exact zm_o _ _ _ rfl) (m_isPicture hP hof) ?_
      refine zw_if_eqB 28 20 rfl dX11_mix_17 (by decide) (fun h_17 => ?_) (fun h_17 => ?_)
      · first | exact absurd hc1 h_9 | exact absurd hc2 h_17 | exact absurd hc3 h_25
      · refine zw_aload_n 21 rfl dX11_mix_20 rfl ?_
        refine zw_iload_n 22 rfl dX11_mix_21 rfl ?_
        refine zw_cVi1 25 rfl dX11_mix_22 kX11_mix_173 (Nat.le_of_ble_eq_true rfl) (by first | assumption | exact zm_o0 | exact zm_o _ _ _ rfl) (m_isPicture hP hot) ?_
        refine zw_if_neB 34 28 rfl dX11_mix_25 (by decide) (fun h_25 => ?_) (fun h_25 => ?_)
        · refine zw_iload 36 rfl dX11_mix_34 rfl ?_
          refine zw_iconst 37 rfl dX11_mix_36 ?_
          refine zw_bipush 39 rfl dX11_mix_37 rfl ?_
          refine zw_cSi3 42 rfl dX11_mix_39 kX11_mix_106 (Nat.le_of_ble_eq_true rfl) (m_in (by omega) (by omega) (by omega)) ?_
          refine zw_if_neB 51 45 rfl dX11_mix_42 (by decide) (fun h_42 => ?_) (fun h_42 => ?_)
          · refine zw_aload_n 52 rfl dX11_mix_51 rfl ?_
            refine zw_iload_n 53 rfl dX11_mix_52 rfl ?_
            refine zw_iload_n 54 rfl dX11_mix_53 rfl ?_
            refine zw_cVi2 57 rfl dX11_mix_54 kX11_mix_267 (Nat.le_of_ble_eq_true rfl) (by first | assumption | exact zm_o0 | exact zm_o _ _ _ rfl) (m_areAsWide hq1 ho1) ?_
            refine zw_if_neB 66 60 rfl dX11_mix_57 (by decide) (fun h_57 => ?_) (fun h_57 => ?_)
            · refine zw_aload_n 67 rfl dX11_mix_66 rfl ?_
              refine zw_aload_n 68 rfl dX11_mix_67 rfl ?_
              refine zw_iload_n 69 rfl dX11_mix_68 rfl ?_
              refine zw_cVi1 72 rfl dX11_mix_69 kX11_mix_170 (Nat.le_of_ble_eq_true rfl) (by first | assumption | exact zm_o0 | exact zm_o _ _ _ rfl) (m_wideP hq1) ?_
              refine zw_aload_n 73 rfl dX11_mix_72 rfl ?_
              refine zw_iload_n 74 rfl dX11_mix_73 rfl ?_
              refine zw_cVi1 77 rfl dX11_mix_74 kX11_mix_176 (Nat.le_of_ble_eq_true rfl) (by first | assumption | exact zm_o0 | exact zm_o _ _ _ rfl) (m_highP hq1) ?_
              refine zw_cVv2 80 rfl dX11_mix_77 kX11_mix_200 (Nat.le_of_ble_eq_true rfl) (by first | assumption | exact zm_o0 | exact zm_o _ _ _ rfl) m_begins ?_
              refine zw_iconst 81 rfl dX11_mix_80 ?_
              refine zw_istore 83 rfl dX11_mix_81 (Nat.le_of_ble_eq_true rfl) rfl ?_
              exact key _ (mNw.start (mSc2.rf.u (by unfold mKey2 mKey; omega)))
            · exact absurd hc5 h_57
          · exact absurd hc4 h_42
        · first | exact absurd hc1 h_9 | exact absurd hc2 h_17 | exact absurd hc3 h_25
  refine zw_aload_n 1 rfl dX11_mix_0 rfl ?_
  refine zw_iconst 2 rfl dX11_mix_1 ?_
  refine zw_puti 5 rfl dX11_mix_2 fp_X11_85 (by first | assumption | exact zm_o0 | exact zm_o _ _ _ rfl) ?_
  refine zw_iload_n 6 rfl dX11_mix_5 rfl ?_
  refine zw_cSi1 9 rfl dX11_mix_6 kX11_mix_316 (Nat.le_of_ble_eq_true rfl) (m_isTo (by omega)) ?_
  refine zw_if_eqB 28 12 rfl dX11_mix_9 (by decide) (fun h_9 => ?_) (fun h_9 => ?_)
  · refine zw_aload_n 29 rfl dX11_mix_28 rfl ?_
    refine zw_iconst 30 rfl dX11_mix_29 ?_
    refine zw_cVi1 33 rfl dX11_mix_30 kX11_mix_197 (Nat.le_of_ble_eq_true rfl) (by first | assumption | exact zm_o0 | exact zm_o _ _ _ rfl) (m_no (by omega) (by omega)) ?_
    exact zw_zret (st := []) dX11_mix_33 rfl (by omega) (mRef h mThrown mScT.rf (by simp only [if_neg h_9, if_true, if_false]) (by omega))
  · refine zw_aload_n 13 rfl dX11_mix_12 rfl ?_
    refine zw_iload_n 14 rfl dX11_mix_13 rfl ?_
    refine zw_cVi1 17 rfl dX11_mix_14 kX11_mix_173 (Nat.le_of_ble_eq_true rfl) (by first | assumption | exact zm_o0 | exact zm_o _ _ _ rfl) (m_isPicture hP hof) ?_
    refine zw_if_eqB 28 20 rfl dX11_mix_17 (by decide) (fun h_17 => ?_) (fun h_17 => ?_)
    · refine zw_aload_n 29 rfl dX11_mix_28 rfl ?_
      refine zw_iconst 30 rfl dX11_mix_29 ?_
      refine zw_cVi1 33 rfl dX11_mix_30 kX11_mix_197 (Nat.le_of_ble_eq_true rfl) (by first | assumption | exact zm_o0 | exact zm_o _ _ _ rfl) (m_no (by omega) (by omega)) ?_
      exact zw_zret (st := []) dX11_mix_33 rfl (by omega) (mRef h mThrown mScT.rf (by simp only [if_pos h_9, if_neg h_17, if_true, if_false]) (by omega))
    · refine zw_aload_n 21 rfl dX11_mix_20 rfl ?_
      refine zw_iload_n 22 rfl dX11_mix_21 rfl ?_
      refine zw_cVi1 25 rfl dX11_mix_22 kX11_mix_173 (Nat.le_of_ble_eq_true rfl) (by first | assumption | exact zm_o0 | exact zm_o _ _ _ rfl) (m_isPicture hP hot) ?_
      refine zw_if_neB 34 28 rfl dX11_mix_25 (by decide) (fun h_25 => ?_) (fun h_25 => ?_)
      · refine zw_iload 36 rfl dX11_mix_34 rfl ?_
        refine zw_iconst 37 rfl dX11_mix_36 ?_
        refine zw_bipush 39 rfl dX11_mix_37 rfl ?_
        refine zw_cSi3 42 rfl dX11_mix_39 kX11_mix_106 (Nat.le_of_ble_eq_true rfl) (m_in (by omega) (by omega) (by omega)) ?_
        refine zw_if_neB 51 45 rfl dX11_mix_42 (by decide) (fun h_42 => ?_) (fun h_42 => ?_)
        · refine zw_aload_n 52 rfl dX11_mix_51 rfl ?_
          refine zw_iload_n 53 rfl dX11_mix_52 rfl ?_
          refine zw_iload_n 54 rfl dX11_mix_53 rfl ?_
          refine zw_cVi2 57 rfl dX11_mix_54 kX11_mix_267 (Nat.le_of_ble_eq_true rfl) (by first | assumption | exact zm_o0 | exact zm_o _ _ _ rfl) (m_areAsWide (hP.pc h_17) (hP.pc h_25)) ?_
          refine zw_if_neB 66 60 rfl dX11_mix_57 (by decide) (fun h_57 => ?_) (fun h_57 => ?_)
          · exact absurd ⟨h_9, h_17, h_25, h_42, h_57⟩ hc
          · refine zw_aload_n 61 rfl dX11_mix_60 rfl ?_
            refine zw_iconst 62 rfl dX11_mix_61 ?_
            refine zw_cVi1 65 rfl dX11_mix_62 kX11_mix_197 (Nat.le_of_ble_eq_true rfl) (by first | assumption | exact zm_o0 | exact zm_o _ _ _ rfl) (m_no (by omega) (by omega)) ?_
            exact zw_zret (st := []) dX11_mix_65 rfl (by omega) (mRef h mThrown mScT.rf (by simp only [if_pos h_9, if_pos h_17, if_pos h_25, if_pos h_42, if_neg h_57, if_true, if_false]) (by omega))
        · refine zw_aload_n 46 rfl dX11_mix_45 rfl ?_
          refine zw_iconst 47 rfl dX11_mix_46 ?_
          refine zw_cVi1 50 rfl dX11_mix_47 kX11_mix_197 (Nat.le_of_ble_eq_true rfl) (by first | assumption | exact zm_o0 | exact zm_o _ _ _ rfl) (m_no (by omega) (by omega)) ?_
          exact zw_zret (st := []) dX11_mix_50 rfl (by omega) (mRef h mThrown mScT.rf (by simp only [if_pos h_9, if_pos h_17, if_pos h_25, if_neg h_42, if_true, if_false]) (by omega))
      · refine zw_aload_n 29 rfl dX11_mix_28 rfl ?_
        refine zw_iconst 30 rfl dX11_mix_29 ?_
        refine zw_cVi1 33 rfl dX11_mix_30 kX11_mix_197 (Nat.le_of_ble_eq_true rfl) (by first | assumption | exact zm_o0 | exact zm_o _ _ _ rfl) (m_no (by omega) (by omega)) ?_
        exact zw_zret (st := []) dX11_mix_33 rfl (by omega) (mRef h mThrown mScT.rf (by simp only [if_pos h_9, if_pos h_17, if_neg h_25, if_true, if_false]) (by omega))
theorem Y_above {G : zG} {C : Nat} {σ τ : zSt} {A : zA} {to of ot : Int} (h : zmR C σ τ A) (hto : -2147483648 ≤ to ∧ to ≤ 2147483647) (hof : -2147483648 ≤ of ∧ of ≤ 2147483647) (hot : -2147483648 ≤ ot ∧ ot ≤ 2147483647) : zC G M_X11_above [.ref C, vi to, vi of, vi ot] (zmS C, σ, τ) (mQ C (sp_above A to of ot)) := by
  have hP := (mThrown (v := 0)).P h.p
  refine zC_of 4 rfl (Nat.le_of_ble_eq_true rfl) ?_
  by_cases hc : aPl to ∧ aTold A of ∧ aTold A ot ∧ aLike A of ot
  · obtain ⟨hc1, hc2, hc3, hc4⟩ := hc
    have hq := h.p.pc hc2
    have ho := h.p.pc hc3
    have hq1 := hP.pc hc2
    have ho1 := hP.pc hc3
    have hw := hq.wh
    have hE : ∀ F, (fun (x y m : Int) => m + if 0 ≤ 128 + (A.1 of.toNat).2.2 x y - (A.1 ot.toNat).2.2 x y ∧ 128 + (A.1 of.toNat).2.2 x y - (A.1 ot.toNat).2.2 x y ≤ 255 then (0 : Int) else 1) = F → aHeld (A.1 of.toNat) (A.1 ot.toNat) = zpt (A.1 of.toNat).1 F 0 (A.1 of.toNat).2.1.toNat 0 := fun F hF => by subst hF; exact zpt_e _ _ _ _
    have hF : ∀ x y m : Int, (fun (x y m : Int) => m + if 0 ≤ 128 + (A.1 of.toNat).2.2 x y - (A.1 ot.toNat).2.2 x y ∧ 128 + (A.1 of.toNat).2.2 x y - (A.1 ot.toNat).2.2 x y ≤ 255 then (0 : Int) else 1) x y m = m + if 0 ≤ 128 + (A.1 of.toNat).2.2 x y - (A.1 ot.toNat).2.2 x y ∧ 128 + (A.1 of.toNat).2.2 x y - (A.1 ot.toNat).2.2 x y ≤ 255 then (0 : Int) else 1 := fun _ _ _ => rfl
    generalize hG : (fun (x y m : Int) => m + if 0 ≤ 128 + (A.1 of.toNat).2.2 x y - (A.1 ot.toNat).2.2 x y ∧ 128 + (A.1 of.toNat).2.2 x y - (A.1 ot.toNat).2.2 x y ≤ 255 then (0 : Int) else 1) = F at hF
    have hE := hE F hG
    have key : ∀ σs : zSt, mNw C σ ((A.1 of.toNat).1) ((A.1 of.toNat).1) ((A.1 of.toNat).2.1) ((aAbv (A.1 of.toNat) (A.1 ot.toNat)).2.2) mAt 0 0 σs → zW G M_X11_above (mQ C (sp_above A to of ot)) 69 [some (.ref C), some (vi to), some (vi of), some (vi ot), some (vi (zpt (A.1 of.toNat).1 F 0 (0 : Nat) 0)), some (vi (0 : Nat)), none, none] [] (zmS C, σs, τ) := by
      refine zrows (w := ((A.1 of.toNat).1).toNat) (h := ((A.1 of.toNat).2.1).toNat) (O := fun j => ∀ σs : zSt, mNw C σ ((A.1 of.toNat).1) ((A.1 of.toNat).1) ((A.1 of.toNat).2.1) ((aAbv (A.1 of.toNat) (A.1 ot.toNat)).2.2) mAt j 0 σs → zW G M_X11_above (mQ C (sp_above A to of ot)) 69 [some (.ref C), some (vi to), some (vi of), some (vi ot), some (vi (zpt (A.1 of.toNat).1 F 0 j 0)), some (vi j), none, none] [] (zmS C, σs, τ)) (N := fun j i => ∀ σs : zSt, mNw C σ ((A.1 of.toNat).1) ((A.1 of.toNat).1) ((A.1 of.toNat).2.1) ((aAbv (A.1 of.toNat) (A.1 ot.toNat)).2.2) mAt j i σs → zW G M_X11_above (mQ C (sp_above A to of ot)) 82 [some (.ref C), some (vi to), some (vi of), some (vi ot), some (vi (zpt (A.1 of.toNat).1 F 0 j i)), some (vi j), some (vi i), none] [] (zmS C, σs, τ)) ?_ ?_ ?_ ?_
      · intro σs hl
        have hpic := hl.pic (by omega) (by omega) (by omega) (fun x y hx hy => zhold_r (by omega))
        refine zw_iload 71 rfl dX11_above_69 rfl ?_
        refine zw_aload_n 72 rfl dX11_above_71 rfl ?_
        refine zw_iload_n 73 rfl dX11_above_72 rfl ?_
        refine zw_cVi1 76 rfl dX11_above_73 kX11_above_176 (Nat.le_of_ble_eq_true rfl) (by first | assumption | exact zm_o0 | exact zm_o _ _ _ rfl) (m_highP (hq.s (by omega) hl.1)) ?_
        refine zw_icmp_ge 186 79 rfl dX11_above_76 (by decide) (by omega) (by omega) (fun h_76 => ?_) (fun h_76 => ?_)
        · refine zw_aload_n 187 rfl dX11_above_186 rfl ?_
          refine zw_iload_n 188 rfl dX11_above_187 rfl ?_
          refine zw_cVr1 191 rfl dX11_above_188 kX11_above_203 (Nat.le_of_ble_eq_true rfl) (by first | assumption | exact zm_o0 | exact zm_o _ _ _ rfl) (m_becomes (hl.1.s.P h.p) (hl.1.s.H h.hs) hpic hc1) ?_
          rintro _ _ ⟨rfl, σ2, rfl, hA⟩
          refine zw_aload_n 192 rfl dX11_above_191 rfl ?_
          refine zw_iload 194 rfl dX11_above_192 rfl ?_
          refine zw_cVi1 197 rfl dX11_above_194 kX11_above_157 (Nat.le_of_ble_eq_true rfl) (by first | assumption | exact zm_o0 | exact zm_o _ _ _ rfl) m_good ?_
          refine zw_iret (st := []) dX11_above_197 rfl ?_
          unfold sp_above
          rw [hE]
          exact mAct h hl.1.s mScT.rf hA (by simp only [if_pos hc1, if_pos hc2, if_pos hc3, if_pos hc4])
        · omega
      · intro j hj hN
        intro σs hl
        refine zw_iload 71 rfl dX11_above_69 rfl ?_
        refine zw_aload_n 72 rfl dX11_above_71 rfl ?_
        refine zw_iload_n 73 rfl dX11_above_72 rfl ?_
        refine zw_cVi1 76 rfl dX11_above_73 kX11_above_176 (Nat.le_of_ble_eq_true rfl) (by first | assumption | exact zm_o0 | exact zm_o _ _ _ rfl) (m_highP (hq.s (by omega) hl.1)) ?_
        refine zw_icmp_ge 186 79 rfl dX11_above_76 (by decide) (by omega) (by omega) (fun h_76 => ?_) (fun h_76 => ?_)
        · omega
        · refine zw_iconst 80 rfl dX11_above_79 ?_
          refine zw_istore 82 rfl dX11_above_80 (Nat.le_of_ble_eq_true rfl) rfl ?_
          exact hN σs hl
      · intro j i hj hi hN
        intro σs hl
        have hd1 := hq.d (x := i) (y := j) (by omega) (by omega)
        have hd2 := ho.d (x := i) (y := j) (by omega) (by omega)
        refine zw_iload 84 rfl dX11_above_82 rfl ?_
        refine zw_aload_n 85 rfl dX11_above_84 rfl ?_
        refine zw_iload_n 86 rfl dX11_above_85 rfl ?_
        refine zw_cVi1 89 rfl dX11_above_86 kX11_above_170 (Nat.le_of_ble_eq_true rfl) (by first | assumption | exact zm_o0 | exact zm_o _ _ _ rfl) (m_wideP (hq.s (by omega) hl.1)) ?_
        refine zw_icmp_ge 180 92 rfl dX11_above_89 (by decide) (by omega) (by omega) (fun h_89 => ?_) (fun h_89 => ?_)
        · omega
        · refine zw_sipush 95 rfl dX11_above_92 rfl ?_
          refine zw_aload_n 96 rfl dX11_above_95 rfl ?_
          refine zw_iload_n 97 rfl dX11_above_96 rfl ?_
          refine zw_iload 99 rfl dX11_above_97 rfl ?_
          refine zw_iload 101 rfl dX11_above_99 rfl ?_
          refine zw_cVi3 104 rfl dX11_above_101 kX11_above_182 (Nat.le_of_ble_eq_true rfl) (by first | assumption | exact zm_o0 | exact zm_o _ _ _ rfl) (m_dotP (hq.s (by omega) hl.1) (by omega) (by omega)) ?_
          refine zw_iadd 105 rfl dX11_above_104 ?_
          refine zw_aload_n 106 rfl dX11_above_105 rfl ?_
          refine zw_iload_n 107 rfl dX11_above_106 rfl ?_
          refine zw_iload 109 rfl dX11_above_107 rfl ?_
          refine zw_iload 111 rfl dX11_above_109 rfl ?_
          refine zw_cVi3 114 rfl dX11_above_111 kX11_above_182 (Nat.le_of_ble_eq_true rfl) (by first | assumption | exact zm_o0 | exact zm_o _ _ _ rfl) (m_dotP (ho.s (by omega) hl.1) (by omega) (by omega)) ?_
          refine zw_isub 115 rfl dX11_above_114 ?_
          refine zw_istore 117 rfl dX11_above_115 (Nat.le_of_ble_eq_true rfl) rfl ?_
          refine zw_iload 119 rfl dX11_above_117 rfl ?_
          refine zw_iload 121 rfl dX11_above_119 rfl ?_
          refine zw_iconst 122 rfl dX11_above_121 ?_
          refine zw_sipush 125 rfl dX11_above_122 rfl ?_
          refine zw_cSi3 128 rfl dX11_above_125 kX11_above_106 (Nat.le_of_ble_eq_true rfl) (m_in (by omega) (by omega) (by omega)) ?_
          refine zw_if_eqB 135 131 rfl dX11_above_128 (by decide) (fun h_128 => ?_) (fun h_128 => ?_)
          · refine zw_iconst 136 rfl dX11_above_135 ?_
            refine zw_iadd 137 rfl dX11_above_136 ?_
            refine zw_istore 139 rfl dX11_above_137 (Nat.le_of_ble_eq_true rfl) rfl ?_
            refine zw_aload_n 140 rfl dX11_above_139 rfl ?_
            refine zw_bipush 142 rfl dX11_above_140 rfl ?_
            refine zw_iload 144 rfl dX11_above_142 rfl ?_
            refine zw_iload 146 rfl dX11_above_144 rfl ?_
            refine zw_iload 148 rfl dX11_above_146 rfl ?_
            refine zw_if_ge 155 151 rfl dX11_above_148 (by decide) (by omega) (fun h_148 => ?_) (fun h_148 => ?_)
            · refine zw_iload 157 rfl dX11_above_155 rfl ?_
              refine zw_sipush 160 rfl dX11_above_157 rfl ?_
              refine zw_icmp_le 169 163 rfl dX11_above_160 (by decide) (by omega) (by omega) (fun h_160 => ?_) (fun h_160 => ?_)
              · refine zw_iload 171 rfl dX11_above_169 rfl ?_
                refine zw_cVv4 174 rfl dX11_above_171 kX11_above_193 (Nat.le_of_ble_eq_true rfl) (by first | assumption | exact zm_o0 | exact zm_o _ _ _ rfl) (m_putsN (by omega) (by omega)) ?_
                refine zw_iinc 177 rfl dX11_above_174 (Nat.le_of_ble_eq_true rfl) rfl rfl ?_
                refine zw_goto 82 dX11_above_177 (by decide) ?_
                refine zw_drop 7 ?_
                have hN := hN _ (hl.put1 (v := zhold 255 (128 + (A.1 of.toNat).2.2 i j - (A.1 ot.toNat).2.2 i j)) (x := i) (y := j) (by omega) (by omega) (by omega) rfl rfl rfl)
                rw [zpt_s, hF] at hN
                first | (rw [if_pos h_128] at hN) | (rw [if_neg h_128] at hN)
                unfold zhold at hN
                first | (rw [if_pos (by omega)] at hN; exact hN) | (rw [if_neg (by omega), if_pos (by omega)] at hN; exact hN) | (rw [if_neg (by omega), if_neg (by omega)] at hN; exact hN) | (exfalso; omega)
              · refine zw_sipush 166 rfl dX11_above_163 rfl ?_
                refine zw_goto 171 dX11_above_166 (by decide) ?_
                refine zw_cVv4 174 rfl dX11_above_171 kX11_above_193 (Nat.le_of_ble_eq_true rfl) (by first | assumption | exact zm_o0 | exact zm_o _ _ _ rfl) (m_putsN (by omega) (by omega)) ?_
                refine zw_iinc 177 rfl dX11_above_174 (Nat.le_of_ble_eq_true rfl) rfl rfl ?_
                refine zw_goto 82 dX11_above_177 (by decide) ?_
                refine zw_drop 7 ?_
                have hN := hN _ (hl.put1 (v := zhold 255 (128 + (A.1 of.toNat).2.2 i j - (A.1 ot.toNat).2.2 i j)) (x := i) (y := j) (by omega) (by omega) (by omega) rfl rfl rfl)
                rw [zpt_s, hF] at hN
                first | (rw [if_pos h_128] at hN) | (rw [if_neg h_128] at hN)
                unfold zhold at hN
                first | (rw [if_pos (by omega)] at hN; exact hN) | (rw [if_neg (by omega), if_pos (by omega)] at hN; exact hN) | (rw [if_neg (by omega), if_neg (by omega)] at hN; exact hN) | (exfalso; omega)
            · refine zw_iconst 152 rfl dX11_above_151 ?_
              refine zw_goto 171 dX11_above_152 (by decide) ?_
              refine zw_cVv4 174 rfl dX11_above_171 kX11_above_193 (Nat.le_of_ble_eq_true rfl) (by first | assumption | exact zm_o0 | exact zm_o _ _ _ rfl) (m_putsN (by omega) (by omega)) ?_
              refine zw_iinc 177 rfl dX11_above_174 (Nat.le_of_ble_eq_true rfl) rfl rfl ?_
              refine zw_goto 82 dX11_above_177 (by decide) ?_
              refine zw_drop 7 ?_
              have hN := hN _ (hl.put1 (v := zhold 255 (128 + (A.1 of.toNat).2.2 i j - (A.1 ot.toNat).2.2 i j)) (x := i) (y := j) (by omega) (by omega) (by omega) rfl rfl rfl)
              rw [zpt_s, hF] at hN
              first | (rw [if_pos h_128] at hN) | (rw [if_neg h_128] at hN)
              unfold zhold at hN
              first | (rw [if_pos (by omega)] at hN; exact hN) | (rw [if_neg (by omega), if_pos (by omega)] at hN; exact hN) | (rw [if_neg (by omega), if_neg (by omega)] at hN; exact hN) | (exfalso; omega)
          · refine zw_iconst 132 rfl dX11_above_131 ?_
            refine zw_goto 136 dX11_above_132 (by decide) ?_
            refine zw_iadd 137 rfl dX11_above_136 ?_
            refine zw_istore 139 rfl dX11_above_137 (Nat.le_of_ble_eq_true rfl) rfl ?_
            refine zw_aload_n 140 rfl dX11_above_139 rfl ?_
            refine zw_bipush 142 rfl dX11_above_140 rfl ?_
            refine zw_iload 144 rfl dX11_above_142 rfl ?_
            refine zw_iload 146 rfl dX11_above_144 rfl ?_
            refine zw_iload 148 rfl dX11_above_146 rfl ?_
            refine zw_if_ge 155 151 rfl dX11_above_148 (by decide) (by omega) (fun h_148 => ?_) (fun h_148 => ?_)
            · refine zw_iload 157 rfl dX11_above_155 rfl ?_
              refine zw_sipush 160 rfl dX11_above_157 rfl ?_
              refine zw_icmp_le 169 163 rfl dX11_above_160 (by decide) (by omega) (by omega) (fun h_160 => ?_) (fun h_160 => ?_)
              · refine zw_iload 171 rfl dX11_above_169 rfl ?_
                refine zw_cVv4 174 rfl dX11_above_171 kX11_above_193 (Nat.le_of_ble_eq_true rfl) (by first | assumption | exact zm_o0 | exact zm_o _ _ _ rfl) (m_putsN (by omega) (by omega)) ?_
                refine zw_iinc 177 rfl dX11_above_174 (Nat.le_of_ble_eq_true rfl) rfl rfl ?_
                refine zw_goto 82 dX11_above_177 (by decide) ?_
                refine zw_drop 7 ?_
                have hN := hN _ (hl.put1 (v := zhold 255 (128 + (A.1 of.toNat).2.2 i j - (A.1 ot.toNat).2.2 i j)) (x := i) (y := j) (by omega) (by omega) (by omega) rfl rfl rfl)
                rw [zpt_s, hF] at hN
                first | (rw [if_pos h_128] at hN) | (rw [if_neg h_128] at hN)
                unfold zhold at hN
                first | (rw [if_pos (by omega)] at hN; exact hN) | (rw [if_neg (by omega), if_pos (by omega)] at hN; exact hN) | (rw [if_neg (by omega), if_neg (by omega)] at hN; exact hN) | (exfalso; omega)
              · refine zw_sipush 166 rfl dX11_above_163 rfl ?_
                refine zw_goto 171 dX11_above_166 (by decide) ?_
                refine zw_cVv4 174 rfl dX11_above_171 kX11_above_193 (Nat.le_of_ble_eq_true rfl) (by first | assumption | exact zm_o0 | exact zm_o _ _ _ rfl) (m_putsN (by omega) (by omega)) ?_
                refine zw_iinc 177 rfl dX11_above_174 (Nat.le_of_ble_eq_true rfl) rfl rfl ?_
                refine zw_goto 82 dX11_above_177 (by decide) ?_
                refine zw_drop 7 ?_
                have hN := hN _ (hl.put1 (v := zhold 255 (128 + (A.1 of.toNat).2.2 i j - (A.1 ot.toNat).2.2 i j)) (x := i) (y := j) (by omega) (by omega) (by omega) rfl rfl rfl)
                rw [zpt_s, hF] at hN
                first | (rw [if_pos h_128] at hN) | (rw [if_neg h_128] at hN)
                unfold zhold at hN
                first | (rw [if_pos (by omega)] at hN; exact hN) | (rw [if_neg (by omega), if_pos (by omega)] at hN; exact hN) | (rw [if_neg (by omega), if_neg (by omega)] at hN; exact hN) | (exfalso; omega)
            · refine zw_iconst 152 rfl dX11_above_151 ?_
              refine zw_goto 171 dX11_above_152 (by decide) ?_
              refine zw_cVv4 174 rfl dX11_above_171 kX11_above_193 (Nat.le_of_ble_eq_true rfl) (by first | assumption | exact zm_o0 | exact zm_o _ _ _ rfl) (m_putsN (by omega) (by omega)) ?_
              refine zw_iinc 177 rfl dX11_above_174 (Nat.le_of_ble_eq_true rfl) rfl rfl ?_
              refine zw_goto 82 dX11_above_177 (by decide) ?_
              refine zw_drop 7 ?_
              have hN := hN _ (hl.put1 (v := zhold 255 (128 + (A.1 of.toNat).2.2 i j - (A.1 ot.toNat).2.2 i j)) (x := i) (y := j) (by omega) (by omega) (by omega) rfl rfl rfl)
              rw [zpt_s, hF] at hN
              first | (rw [if_pos h_128] at hN) | (rw [if_neg h_128] at hN)
              unfold zhold at hN
              first | (rw [if_pos (by omega)] at hN; exact hN) | (rw [if_neg (by omega), if_pos (by omega)] at hN; exact hN) | (rw [if_neg (by omega), if_neg (by omega)] at hN; exact hN) | (exfalso; omega)
      · intro j hj hO
        intro σs hl
        refine zw_iload 84 rfl dX11_above_82 rfl ?_
        refine zw_aload_n 85 rfl dX11_above_84 rfl ?_
        refine zw_iload_n 86 rfl dX11_above_85 rfl ?_
        refine zw_cVi1 89 rfl dX11_above_86 kX11_above_170 (Nat.le_of_ble_eq_true rfl) (by first | assumption | exact zm_o0 | exact zm_o _ _ _ rfl) (m_wideP (hq.s (by omega) hl.1)) ?_
        refine zw_icmp_ge 180 92 rfl dX11_above_89 (by decide) (by omega) (by omega) (fun h_89 => ?_) (fun h_89 => ?_)
        · refine zw_iinc 183 rfl dX11_above_180 (Nat.le_of_ble_eq_true rfl) rfl rfl ?_
          refine zw_goto 69 dX11_above_183 (by decide) ?_
          refine zw_drop 6 ?_
          exact hO σs hl.row
        · omega
    refine zw_aload_n 1 rfl dX11_above_0 rfl ?_
    refine zw_iconst 2 rfl dX11_above_1 ?_
    refine zw_puti 5 rfl dX11_above_2 fp_X11_85 (by first | assumption | exact zm_o0 | exact zm_o _ _ _ rfl) ?_
    refine zw_iload_n 6 rfl dX11_above_5 rfl ?_
    refine zw_cSi1 9 rfl dX11_above_6 kX11_above_316 (Nat.le_of_ble_eq_true rfl) (m_isTo (by omega)) ?_
    refine zw_if_eqB 28 12 rfl dX11_above_9 (by decide) (fun h_9 => ?_) (fun h_9 => ?_)
    · first | exact absurd hc1 h_9 | exact absurd hc2 h_17 | exact absurd hc3 h_25
    · refine zw_aload_n 13 rfl dX11_above_12 rfl ?_
      refine zw_iload_n 14 rfl dX11_above_13 rfl ?_
      refine zw_cVi1 17 rfl dX11_above_14 kX11_above_173 (Nat.le_of_ble_eq_true rfl) (by first | assumption | exact zm_o0 | exact zm_o _ _ _ rfl) (m_isPicture hP hof) ?_
      refine zw_if_eqB 28 20 rfl dX11_above_17 (by decide) (fun h_17 => ?_) (fun h_17 => ?_)
      · first | exact absurd hc1 h_9 | exact absurd hc2 h_17 | exact absurd hc3 h_25
      · refine zw_aload_n 21 rfl dX11_above_20 rfl ?_
        refine zw_iload_n 22 rfl dX11_above_21 rfl ?_
        refine zw_cVi1 25 rfl dX11_above_22 kX11_above_173 (Nat.le_of_ble_eq_true rfl) (by first | assumption | exact zm_o0 | exact zm_o _ _ _ rfl) (m_isPicture hP hot) ?_
        refine zw_if_neB 34 28 rfl dX11_above_25 (by decide) (fun h_25 => ?_) (fun h_25 => ?_)
        · refine zw_aload_n 35 rfl dX11_above_34 rfl ?_
          refine zw_iload_n 36 rfl dX11_above_35 rfl ?_
          refine zw_iload_n 37 rfl dX11_above_36 rfl ?_
          refine zw_cVi2 40 rfl dX11_above_37 kX11_above_267 (Nat.le_of_ble_eq_true rfl) (by first | assumption | exact zm_o0 | exact zm_o _ _ _ rfl) (m_areAsWide hq1 ho1) ?_
          refine zw_if_neB 49 43 rfl dX11_above_40 (by decide) (fun h_40 => ?_) (fun h_40 => ?_)
          · refine zw_iconst 50 rfl dX11_above_49 ?_
            refine zw_istore 52 rfl dX11_above_50 (Nat.le_of_ble_eq_true rfl) rfl ?_
            refine zw_aload_n 53 rfl dX11_above_52 rfl ?_
            refine zw_aload_n 54 rfl dX11_above_53 rfl ?_
            refine zw_iload_n 55 rfl dX11_above_54 rfl ?_
            refine zw_cVi1 58 rfl dX11_above_55 kX11_above_170 (Nat.le_of_ble_eq_true rfl) (by first | assumption | exact zm_o0 | exact zm_o _ _ _ rfl) (m_wideP hq1) ?_
            refine zw_aload_n 59 rfl dX11_above_58 rfl ?_
            refine zw_iload_n 60 rfl dX11_above_59 rfl ?_
            refine zw_cVi1 63 rfl dX11_above_60 kX11_above_176 (Nat.le_of_ble_eq_true rfl) (by first | assumption | exact zm_o0 | exact zm_o _ _ _ rfl) (m_highP hq1) ?_
            refine zw_cVv2 66 rfl dX11_above_63 kX11_above_200 (Nat.le_of_ble_eq_true rfl) (by first | assumption | exact zm_o0 | exact zm_o _ _ _ rfl) m_begins ?_
            refine zw_iconst 67 rfl dX11_above_66 ?_
            refine zw_istore 69 rfl dX11_above_67 (Nat.le_of_ble_eq_true rfl) rfl ?_
            exact key _ (mNw.start (mSc2.rf.u (by unfold mKey2 mKey; omega)))
          · exact absurd hc4 h_40
        · first | exact absurd hc1 h_9 | exact absurd hc2 h_17 | exact absurd hc3 h_25
  refine zw_aload_n 1 rfl dX11_above_0 rfl ?_
  refine zw_iconst 2 rfl dX11_above_1 ?_
  refine zw_puti 5 rfl dX11_above_2 fp_X11_85 (by first | assumption | exact zm_o0 | exact zm_o _ _ _ rfl) ?_
  refine zw_iload_n 6 rfl dX11_above_5 rfl ?_
  refine zw_cSi1 9 rfl dX11_above_6 kX11_above_316 (Nat.le_of_ble_eq_true rfl) (m_isTo (by omega)) ?_
  refine zw_if_eqB 28 12 rfl dX11_above_9 (by decide) (fun h_9 => ?_) (fun h_9 => ?_)
  · refine zw_aload_n 29 rfl dX11_above_28 rfl ?_
    refine zw_iconst 30 rfl dX11_above_29 ?_
    refine zw_cVi1 33 rfl dX11_above_30 kX11_above_147 (Nat.le_of_ble_eq_true rfl) (by first | assumption | exact zm_o0 | exact zm_o _ _ _ rfl) m_refused ?_
    exact zw_iret (st := []) dX11_above_33 rfl (mRef h mThrown mScT.rf (by simp only [if_neg h_9, if_true, if_false]) (by omega))
  · refine zw_aload_n 13 rfl dX11_above_12 rfl ?_
    refine zw_iload_n 14 rfl dX11_above_13 rfl ?_
    refine zw_cVi1 17 rfl dX11_above_14 kX11_above_173 (Nat.le_of_ble_eq_true rfl) (by first | assumption | exact zm_o0 | exact zm_o _ _ _ rfl) (m_isPicture hP hof) ?_
    refine zw_if_eqB 28 20 rfl dX11_above_17 (by decide) (fun h_17 => ?_) (fun h_17 => ?_)
    · refine zw_aload_n 29 rfl dX11_above_28 rfl ?_
      refine zw_iconst 30 rfl dX11_above_29 ?_
      refine zw_cVi1 33 rfl dX11_above_30 kX11_above_147 (Nat.le_of_ble_eq_true rfl) (by first | assumption | exact zm_o0 | exact zm_o _ _ _ rfl) m_refused ?_
      exact zw_iret (st := []) dX11_above_33 rfl (mRef h mThrown mScT.rf (by simp only [if_pos h_9, if_neg h_17, if_true, if_false]) (by omega))
    · refine zw_aload_n 21 rfl dX11_above_20 rfl ?_
      refine zw_iload_n 22 rfl dX11_above_21 rfl ?_
      refine zw_cVi1 25 rfl dX11_above_22 kX11_above_173 (Nat.le_of_ble_eq_true rfl) (by first | assumption | exact zm_o0 | exact zm_o _ _ _ rfl) (m_isPicture hP hot) ?_
      refine zw_if_neB 34 28 rfl dX11_above_25 (by decide) (fun h_25 => ?_) (fun h_25 => ?_)
      · refine zw_aload_n 35 rfl dX11_above_34 rfl ?_
        refine zw_iload_n 36 rfl dX11_above_35 rfl ?_
        refine zw_iload_n 37 rfl dX11_above_36 rfl ?_
        refine zw_cVi2 40 rfl dX11_above_37 kX11_above_267 (Nat.le_of_ble_eq_true rfl) (by first | assumption | exact zm_o0 | exact zm_o _ _ _ rfl) (m_areAsWide (hP.pc h_17) (hP.pc h_25)) ?_
        refine zw_if_neB 49 43 rfl dX11_above_40 (by decide) (fun h_40 => ?_) (fun h_40 => ?_)
        · exact absurd ⟨h_9, h_17, h_25, h_40⟩ hc
        · refine zw_aload_n 44 rfl dX11_above_43 rfl ?_
          refine zw_iconst 45 rfl dX11_above_44 ?_
          refine zw_cVi1 48 rfl dX11_above_45 kX11_above_147 (Nat.le_of_ble_eq_true rfl) (by first | assumption | exact zm_o0 | exact zm_o _ _ _ rfl) m_refused ?_
          exact zw_iret (st := []) dX11_above_48 rfl (mRef h mThrown mScT.rf (by simp only [if_pos h_9, if_pos h_17, if_pos h_25, if_neg h_40, if_true, if_false]) (by omega))
      · refine zw_aload_n 29 rfl dX11_above_28 rfl ?_
        refine zw_iconst 30 rfl dX11_above_29 ?_
        refine zw_cVi1 33 rfl dX11_above_30 kX11_above_147 (Nat.le_of_ble_eq_true rfl) (by first | assumption | exact zm_o0 | exact zm_o _ _ _ rfl) m_refused ?_
        exact zw_iret (st := []) dX11_above_33 rfl (mRef h mThrown mScT.rf (by simp only [if_pos h_9, if_pos h_17, if_neg h_25, if_true, if_false]) (by omega))
theorem m_wideN {G : zG} {C : Nat} {σ τ : zSt} {w : Int} (h : σ (C + 9) 1164 = w) : zC G M_X11_wide [.ref C, vi 6] (zmS C, σ, τ) (zR (some (vi w)) (zmS C, σ, τ)) := by
  have := m_wide (G := G) (C := C) (σ := σ) (τ := τ) (p := 6) (by omega)
  rw [show 194 * (6 : Int).toNat = 1164 from rfl, h] at this
  exact this
theorem m_highN {G : zG} {C : Nat} {σ τ : zSt} {w : Int} (h : σ (C + 9) 1165 = w) : zC G M_X11_high [.ref C, vi 6] (zmS C, σ, τ) (zR (some (vi w)) (zmS C, σ, τ)) := by
  have := m_high (G := G) (C := C) (σ := σ) (τ := τ) (p := 6) (by omega)
  rw [show 194 * (6 : Int).toNat + 1 = 1165 from rfl, h] at this
  exact this
theorem Y_larger {G : zG} {C : Nat} {σ τ : zSt} {A : zA} {to of n : Int} (h : zmR C σ τ A) (hto : -2147483648 ≤ to ∧ to ≤ 2147483647) (hof : -2147483648 ≤ of ∧ of ≤ 2147483647) (hn : -2147483648 ≤ n ∧ n ≤ 2147483647) : zC G M_X11_larger [.ref C, vi to, vi of, vi n] (zmS C, σ, τ) (mQ C (sp_larger A to of n)) := by
  have hP := (mThrown (v := 0)).P h.p
  refine zC_of 2 rfl (Nat.le_of_ble_eq_true rfl) ?_
  have hm : aTold A of → 2 ≤ n ∧ n ≤ 4 → (1 * 2 ≤ (A.1 of.toNat).1 * n ∧ (A.1 of.toNat).1 * n ≤ 16 * 4) ∧ 1 * 2 ≤ (A.1 of.toNat).2.1 * n ∧ (A.1 of.toNat).2.1 * n ≤ 12 * 4 := fun q1 q2 => by
    have hw := (h.p.pc q1).wh
    exact ⟨⟨Int.mul_le_mul hw.1.1 q2.1 (by omega) (by omega), (zz_m2 (by omega) (by omega)).2⟩, Int.mul_le_mul hw.2.1 q2.1 (by omega) (by omega), (zz_m2 (by omega) (by omega)).2⟩
  by_cases hc : aPl to ∧ aTold A of ∧ (2 ≤ n ∧ n ≤ 4) ∧ ¬ 16 < (A.1 of.toNat).1 * n ∧ (A.1 of.toNat).2.1 * n ≤ 12
  · obtain ⟨hc1, hc2, hc3, hc4, hc5⟩ := hc
    have hq := h.p.pc hc2
    have hq1 := hP.pc hc2
    have hw := hq.wh
    have hmm := hm hc2 hc3
    have key : ∀ σs : zSt, mNw C σ ((A.1 of.toNat).1 * n) ((A.1 of.toNat).1 * n) ((A.1 of.toNat).2.1 * n) ((aLar (A.1 of.toNat) n).2.2) mAt 0 0 σs → zW G M_X11_larger (mQ C (sp_larger A to of n)) 92 [some (.ref C), some (vi to), some (vi of), some (vi n), some (vi (0 : Nat)), none] [] (zmS C, σs, τ) := by
      refine zrows (w := ((A.1 of.toNat).1 * n).toNat) (h := ((A.1 of.toNat).2.1 * n).toNat) (O := fun j => ∀ σs : zSt, mNw C σ ((A.1 of.toNat).1 * n) ((A.1 of.toNat).1 * n) ((A.1 of.toNat).2.1 * n) ((aLar (A.1 of.toNat) n).2.2) mAt j 0 σs → zW G M_X11_larger (mQ C (sp_larger A to of n)) 92 [some (.ref C), some (vi to), some (vi of), some (vi n), some (vi j), none] [] (zmS C, σs, τ)) (N := fun j i => ∀ σs : zSt, mNw C σ ((A.1 of.toNat).1 * n) ((A.1 of.toNat).1 * n) ((A.1 of.toNat).2.1 * n) ((aLar (A.1 of.toNat) n).2.2) mAt j i σs → zW G M_X11_larger (mQ C (sp_larger A to of n)) 106 [some (.ref C), some (vi to), some (vi of), some (vi n), some (vi j), some (vi i)] [] (zmS C, σs, τ)) ?_ ?_ ?_ ?_
      · intro σs hl
        have hpic := hl.pic (by omega) (by omega) (by omega) (fun x y hx hy => hq.d (zz_dv (by omega) hx) (zz_dv (by omega) hy))
        refine zw_iload 94 rfl dX11_larger_92 rfl ?_
        refine zw_aload_n 95 rfl dX11_larger_94 rfl ?_
        refine zw_bipush 97 rfl dX11_larger_95 rfl ?_
        refine zw_cVi1 100 rfl dX11_larger_97 kX11_larger_176 (Nat.le_of_ble_eq_true rfl) (by first | assumption | exact zm_o0 | exact zm_o _ _ _ rfl) (m_highN hl.2.2.1) ?_
        refine zw_icmp_ge 152 103 rfl dX11_larger_100 (by decide) (by omega) (by omega) (fun h_100 => ?_) (fun h_100 => ?_)
        · refine zw_aload_n 153 rfl dX11_larger_152 rfl ?_
          refine zw_iload_n 154 rfl dX11_larger_153 rfl ?_
          refine zw_cVr1 157 rfl dX11_larger_154 kX11_larger_203 (Nat.le_of_ble_eq_true rfl) (by first | assumption | exact zm_o0 | exact zm_o _ _ _ rfl) (m_becomes (hl.1.s.P h.p) (hl.1.s.H h.hs) hpic hc1) ?_
          rintro _ _ ⟨rfl, σ2, rfl, hA⟩
          refine zw_aload_n 158 rfl dX11_larger_157 rfl ?_
          refine zw_iconst 159 rfl dX11_larger_158 ?_
          refine zw_cVi1 162 rfl dX11_larger_159 kX11_larger_197 (Nat.le_of_ble_eq_true rfl) (by first | assumption | exact zm_o0 | exact zm_o _ _ _ rfl) m_yes ?_
          exact zw_zret (st := []) dX11_larger_162 rfl (by omega) (mAct h hl.1.s mScT.rf hA (by simp only [if_pos hc1, if_pos hc2, if_pos hc3, if_neg hc4, if_pos hc5]))
        · omega
      · intro j hj hN
        intro σs hl
        refine zw_iload 94 rfl dX11_larger_92 rfl ?_
        refine zw_aload_n 95 rfl dX11_larger_94 rfl ?_
        refine zw_bipush 97 rfl dX11_larger_95 rfl ?_
        refine zw_cVi1 100 rfl dX11_larger_97 kX11_larger_176 (Nat.le_of_ble_eq_true rfl) (by first | assumption | exact zm_o0 | exact zm_o _ _ _ rfl) (m_highN hl.2.2.1) ?_
        refine zw_icmp_ge 152 103 rfl dX11_larger_100 (by decide) (by omega) (by omega) (fun h_100 => ?_) (fun h_100 => ?_)
        · omega
        · refine zw_iconst 104 rfl dX11_larger_103 ?_
          refine zw_istore 106 rfl dX11_larger_104 (Nat.le_of_ble_eq_true rfl) rfl ?_
          exact hN σs hl
      · intro j i hj hi hN
        intro σs hl
        have hx := zz_dv (x := i) (w := (A.1 of.toNat).1) (n := n) (by omega) (by omega)
        have hy := zz_dv (x := j) (w := (A.1 of.toNat).2.1) (n := n) (by omega) (by omega)
        refine zw_iload 108 rfl dX11_larger_106 rfl ?_
        refine zw_aload_n 109 rfl dX11_larger_108 rfl ?_
        refine zw_bipush 111 rfl dX11_larger_109 rfl ?_
        refine zw_cVi1 114 rfl dX11_larger_111 kX11_larger_170 (Nat.le_of_ble_eq_true rfl) (by first | assumption | exact zm_o0 | exact zm_o _ _ _ rfl) (m_wideN hl.2.1) ?_
        refine zw_icmp_ge 146 117 rfl dX11_larger_114 (by decide) (by omega) (by omega) (fun h_114 => ?_) (fun h_114 => ?_)
        · omega
        · refine zw_aload_n 118 rfl dX11_larger_117 rfl ?_
          refine zw_bipush 120 rfl dX11_larger_118 rfl ?_
          refine zw_iload 122 rfl dX11_larger_120 rfl ?_
          refine zw_iload 124 rfl dX11_larger_122 rfl ?_
          refine zw_aload_n 125 rfl dX11_larger_124 rfl ?_
          refine zw_iload_n 126 rfl dX11_larger_125 rfl ?_
          refine zw_iload 128 rfl dX11_larger_126 rfl ?_
          refine zw_iload_n 129 rfl dX11_larger_128 rfl ?_
          refine zw_idiv 130 rfl dX11_larger_129 (by omega) (by omega) ?_
          refine zw_iload 132 rfl dX11_larger_130 rfl ?_
          refine zw_iload_n 133 rfl dX11_larger_132 rfl ?_
          refine zw_idiv 134 rfl dX11_larger_133 (by omega) (by omega) ?_
          refine zw_cVi3 137 rfl dX11_larger_134 kX11_larger_182 (Nat.le_of_ble_eq_true rfl) (by first | assumption | exact zm_o0 | exact zm_o _ _ _ rfl) (m_dotP (hq.s (by omega) hl.1) hx hy) ?_
          refine zw_cVv4 140 rfl dX11_larger_137 kX11_larger_193 (Nat.le_of_ble_eq_true rfl) (by first | assumption | exact zm_o0 | exact zm_o _ _ _ rfl) (m_putsN (by omega) (by omega)) ?_
          refine zw_iinc 143 rfl dX11_larger_140 (Nat.le_of_ble_eq_true rfl) rfl rfl ?_
          refine zw_goto 106 dX11_larger_143 (by decide) ?_
          exact hN _ (hl.put1 (by omega) (by omega) (by omega) (by omega) (by omega) (rfl))
      · intro j hj hO
        intro σs hl
        refine zw_iload 108 rfl dX11_larger_106 rfl ?_
        refine zw_aload_n 109 rfl dX11_larger_108 rfl ?_
        refine zw_bipush 111 rfl dX11_larger_109 rfl ?_
        refine zw_cVi1 114 rfl dX11_larger_111 kX11_larger_170 (Nat.le_of_ble_eq_true rfl) (by first | assumption | exact zm_o0 | exact zm_o _ _ _ rfl) (m_wideN hl.2.1) ?_
        refine zw_icmp_ge 146 117 rfl dX11_larger_114 (by decide) (by omega) (by omega) (fun h_114 => ?_) (fun h_114 => ?_)
        · refine zw_iinc 149 rfl dX11_larger_146 (Nat.le_of_ble_eq_true rfl) rfl rfl ?_
          refine zw_goto 92 dX11_larger_149 (by decide) ?_
          refine zw_drop 5 ?_
          exact hO σs hl.row
        · omega
    refine zw_aload_n 1 rfl dX11_larger_0 rfl ?_
    refine zw_iconst 2 rfl dX11_larger_1 ?_
    refine zw_puti 5 rfl dX11_larger_2 fp_X11_85 (by first | assumption | exact zm_o0 | exact zm_o _ _ _ rfl) ?_
    refine zw_iload_n 6 rfl dX11_larger_5 rfl ?_
    refine zw_cSi1 9 rfl dX11_larger_6 kX11_larger_316 (Nat.le_of_ble_eq_true rfl) (m_isTo (by omega)) ?_
    refine zw_if_eqB 20 12 rfl dX11_larger_9 (by decide) (fun h_9 => ?_) (fun h_9 => ?_)
    · first | exact absurd hc1 h_9 | exact absurd hc2 h_17
    · refine zw_aload_n 13 rfl dX11_larger_12 rfl ?_
      refine zw_iload_n 14 rfl dX11_larger_13 rfl ?_
      refine zw_cVi1 17 rfl dX11_larger_14 kX11_larger_173 (Nat.le_of_ble_eq_true rfl) (by first | assumption | exact zm_o0 | exact zm_o _ _ _ rfl) (m_isPicture hP hof) ?_
      refine zw_if_neB 26 20 rfl dX11_larger_17 (by decide) (fun h_17 => ?_) (fun h_17 => ?_)
      · refine zw_iload_n 27 rfl dX11_larger_26 rfl ?_
        refine zw_iconst 28 rfl dX11_larger_27 ?_
        refine zw_iconst 29 rfl dX11_larger_28 ?_
        refine zw_cSi3 32 rfl dX11_larger_29 kX11_larger_106 (Nat.le_of_ble_eq_true rfl) (m_in (by omega) (by omega) (by omega)) ?_
        refine zw_if_neB 41 35 rfl dX11_larger_32 (by decide) (fun h_32 => ?_) (fun h_32 => ?_)
        · refine zw_aload_n 42 rfl dX11_larger_41 rfl ?_
          refine zw_iload_n 43 rfl dX11_larger_42 rfl ?_
          refine zw_cVi1 46 rfl dX11_larger_43 kX11_larger_170 (Nat.le_of_ble_eq_true rfl) (by first | assumption | exact zm_o0 | exact zm_o _ _ _ rfl) (m_wideP hq1) ?_
          refine zw_iload_n 47 rfl dX11_larger_46 rfl ?_
          refine zw_imul 48 rfl dX11_larger_47 ?_
          refine zw_bipush 50 rfl dX11_larger_48 rfl ?_
          refine zw_icmp_gt 65 53 rfl dX11_larger_50 (by decide) (by omega) (by omega) (fun h_50 => ?_) (fun h_50 => ?_)
          · first | exact absurd h_50 hc4 | exact absurd hc5 h_62
          · refine zw_aload_n 54 rfl dX11_larger_53 rfl ?_
            refine zw_iload_n 55 rfl dX11_larger_54 rfl ?_
            refine zw_cVi1 58 rfl dX11_larger_55 kX11_larger_176 (Nat.le_of_ble_eq_true rfl) (by first | assumption | exact zm_o0 | exact zm_o _ _ _ rfl) (m_highP hq1) ?_
            refine zw_iload_n 59 rfl dX11_larger_58 rfl ?_
            refine zw_imul 60 rfl dX11_larger_59 ?_
            refine zw_bipush 62 rfl dX11_larger_60 rfl ?_
            refine zw_icmp_le 71 65 rfl dX11_larger_62 (by decide) (by omega) (by omega) (fun h_62 => ?_) (fun h_62 => ?_)
            · refine zw_aload_n 72 rfl dX11_larger_71 rfl ?_
              refine zw_aload_n 73 rfl dX11_larger_72 rfl ?_
              refine zw_iload_n 74 rfl dX11_larger_73 rfl ?_
              refine zw_cVi1 77 rfl dX11_larger_74 kX11_larger_170 (Nat.le_of_ble_eq_true rfl) (by first | assumption | exact zm_o0 | exact zm_o _ _ _ rfl) (m_wideP hq1) ?_
              refine zw_iload_n 78 rfl dX11_larger_77 rfl ?_
              refine zw_imul 79 rfl dX11_larger_78 ?_
              refine zw_aload_n 80 rfl dX11_larger_79 rfl ?_
              refine zw_iload_n 81 rfl dX11_larger_80 rfl ?_
              refine zw_cVi1 84 rfl dX11_larger_81 kX11_larger_176 (Nat.le_of_ble_eq_true rfl) (by first | assumption | exact zm_o0 | exact zm_o _ _ _ rfl) (m_highP hq1) ?_
              refine zw_iload_n 85 rfl dX11_larger_84 rfl ?_
              refine zw_imul 86 rfl dX11_larger_85 ?_
              refine zw_cVv2 89 rfl dX11_larger_86 kX11_larger_200 (Nat.le_of_ble_eq_true rfl) (by first | assumption | exact zm_o0 | exact zm_o _ _ _ rfl) m_begins ?_
              refine zw_iconst 90 rfl dX11_larger_89 ?_
              refine zw_istore 92 rfl dX11_larger_90 (Nat.le_of_ble_eq_true rfl) rfl ?_
              exact key _ (mNw.start (mSc2.rf.u (by unfold mKey2 mKey; omega)))
            · first | exact absurd h_50 hc4 | exact absurd hc5 h_62
        · exact absurd hc3 h_32
      · first | exact absurd hc1 h_9 | exact absurd hc2 h_17
  refine zw_aload_n 1 rfl dX11_larger_0 rfl ?_
  refine zw_iconst 2 rfl dX11_larger_1 ?_
  refine zw_puti 5 rfl dX11_larger_2 fp_X11_85 (by first | assumption | exact zm_o0 | exact zm_o _ _ _ rfl) ?_
  refine zw_iload_n 6 rfl dX11_larger_5 rfl ?_
  refine zw_cSi1 9 rfl dX11_larger_6 kX11_larger_316 (Nat.le_of_ble_eq_true rfl) (m_isTo (by omega)) ?_
  refine zw_if_eqB 20 12 rfl dX11_larger_9 (by decide) (fun h_9 => ?_) (fun h_9 => ?_)
  · refine zw_aload_n 21 rfl dX11_larger_20 rfl ?_
    refine zw_iconst 22 rfl dX11_larger_21 ?_
    refine zw_cVi1 25 rfl dX11_larger_22 kX11_larger_197 (Nat.le_of_ble_eq_true rfl) (by first | assumption | exact zm_o0 | exact zm_o _ _ _ rfl) (m_no (by omega) (by omega)) ?_
    exact zw_zret (st := []) dX11_larger_25 rfl (by omega) (mRef h mThrown mScT.rf (by simp only [if_neg h_9, if_true, if_false]) (by omega))
  · refine zw_aload_n 13 rfl dX11_larger_12 rfl ?_
    refine zw_iload_n 14 rfl dX11_larger_13 rfl ?_
    refine zw_cVi1 17 rfl dX11_larger_14 kX11_larger_173 (Nat.le_of_ble_eq_true rfl) (by first | assumption | exact zm_o0 | exact zm_o _ _ _ rfl) (m_isPicture hP hof) ?_
    refine zw_if_neB 26 20 rfl dX11_larger_17 (by decide) (fun h_17 => ?_) (fun h_17 => ?_)
    · refine zw_iload_n 27 rfl dX11_larger_26 rfl ?_
      refine zw_iconst 28 rfl dX11_larger_27 ?_
      refine zw_iconst 29 rfl dX11_larger_28 ?_
      refine zw_cSi3 32 rfl dX11_larger_29 kX11_larger_106 (Nat.le_of_ble_eq_true rfl) (m_in (by omega) (by omega) (by omega)) ?_
      refine zw_if_neB 41 35 rfl dX11_larger_32 (by decide) (fun h_32 => ?_) (fun h_32 => ?_)
      · have hmm := hm h_17 h_32
        refine zw_aload_n 42 rfl dX11_larger_41 rfl ?_
        refine zw_iload_n 43 rfl dX11_larger_42 rfl ?_
        refine zw_cVi1 46 rfl dX11_larger_43 kX11_larger_170 (Nat.le_of_ble_eq_true rfl) (by first | assumption | exact zm_o0 | exact zm_o _ _ _ rfl) (m_wideP (hP.pc h_17)) ?_
        refine zw_iload_n 47 rfl dX11_larger_46 rfl ?_
        refine zw_imul 48 rfl dX11_larger_47 ?_
        refine zw_bipush 50 rfl dX11_larger_48 rfl ?_
        refine zw_icmp_gt 65 53 rfl dX11_larger_50 (by decide) (by omega) (by omega) (fun h_50 => ?_) (fun h_50 => ?_)
        · refine zw_aload_n 66 rfl dX11_larger_65 rfl ?_
          refine zw_iconst 67 rfl dX11_larger_66 ?_
          refine zw_cVi1 70 rfl dX11_larger_67 kX11_larger_197 (Nat.le_of_ble_eq_true rfl) (by first | assumption | exact zm_o0 | exact zm_o _ _ _ rfl) (m_no (by omega) (by omega)) ?_
          exact zw_zret (st := []) dX11_larger_70 rfl (by omega) (mRef h mThrown mScT.rf (by simp only [if_pos h_9, if_pos h_17, if_pos h_32, if_pos h_50, if_true, if_false]) (by omega))
        · refine zw_aload_n 54 rfl dX11_larger_53 rfl ?_
          refine zw_iload_n 55 rfl dX11_larger_54 rfl ?_
          refine zw_cVi1 58 rfl dX11_larger_55 kX11_larger_176 (Nat.le_of_ble_eq_true rfl) (by first | assumption | exact zm_o0 | exact zm_o _ _ _ rfl) (m_highP (hP.pc h_17)) ?_
          refine zw_iload_n 59 rfl dX11_larger_58 rfl ?_
          refine zw_imul 60 rfl dX11_larger_59 ?_
          refine zw_bipush 62 rfl dX11_larger_60 rfl ?_
          refine zw_icmp_le 71 65 rfl dX11_larger_62 (by decide) (by omega) (by omega) (fun h_62 => ?_) (fun h_62 => ?_)
          · exact absurd ⟨h_9, h_17, h_32, h_50, h_62⟩ hc
          · refine zw_aload_n 66 rfl dX11_larger_65 rfl ?_
            refine zw_iconst 67 rfl dX11_larger_66 ?_
            refine zw_cVi1 70 rfl dX11_larger_67 kX11_larger_197 (Nat.le_of_ble_eq_true rfl) (by first | assumption | exact zm_o0 | exact zm_o _ _ _ rfl) (m_no (by omega) (by omega)) ?_
            exact zw_zret (st := []) dX11_larger_70 rfl (by omega) (mRef h mThrown mScT.rf (by simp only [if_pos h_9, if_pos h_17, if_pos h_32, if_neg h_50, if_neg h_62, if_true, if_false]) (by omega))
      · refine zw_aload_n 36 rfl dX11_larger_35 rfl ?_
        refine zw_iconst 37 rfl dX11_larger_36 ?_
        refine zw_cVi1 40 rfl dX11_larger_37 kX11_larger_197 (Nat.le_of_ble_eq_true rfl) (by first | assumption | exact zm_o0 | exact zm_o _ _ _ rfl) (m_no (by omega) (by omega)) ?_
        exact zw_zret (st := []) dX11_larger_40 rfl (by omega) (mRef h mThrown mScT.rf (by simp only [if_pos h_9, if_pos h_17, if_neg h_32, if_true, if_false]) (by omega))
    · refine zw_aload_n 21 rfl dX11_larger_20 rfl ?_
      refine zw_iconst 22 rfl dX11_larger_21 ?_
      refine zw_cVi1 25 rfl dX11_larger_22 kX11_larger_197 (Nat.le_of_ble_eq_true rfl) (by first | assumption | exact zm_o0 | exact zm_o _ _ _ rfl) (m_no (by omega) (by omega)) ?_
      exact zw_zret (st := []) dX11_larger_25 rfl (by omega) (mRef h mThrown mScT.rf (by simp only [if_pos h_9, if_neg h_17, if_true, if_false]) (by omega))
