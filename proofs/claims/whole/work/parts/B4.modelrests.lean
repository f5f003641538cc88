theorem mrPic.o {C : Nat} {σ : zSt} {p : zPc} (h : mrPic (σ (C + 9)) 1358 p) (h0 : 0 < p.1) : mPc C σ 7 p := ⟨by omega, h, h0⟩
theorem Y_rests {G : zG} {C : Nat} {σ τ : zSt} {A : zA} {of s r n : Int} (h : zmR C σ τ A) (hof : -2147483648 ≤ of ∧ of ≤ 2147483647) (hs : -2147483648 ≤ s ∧ s ≤ 2147483647) (hr : -2147483648 ≤ r ∧ r ≤ 2147483647) (hn : -2147483648 ≤ n ∧ n ≤ 2147483647) : zC G M_X11_rests [.ref C, vi of, vi s, vi r, vi n] (zmS C, σ, τ) (mQ C (sp_rests A of s r n)) := by
  have hP := (mThrown (v := 0)).P h.p
  have hw := aWhy_r A of of s r n
  have hsp : (if aTold A of then if (1 ≤ s ∧ s ≤ 8) ∧ 8 ≤ r ∧ r ≤ 128 then if 0 ≤ n ∧ n ≤ 3 then 0 else 2 else 2 else 1) = aWhy A of of s r n := by
    unfold aWhy
    by_cases c1 : aTold A of
    · rw [if_pos c1, if_pos c1, if_pos c1]
      by_cases c3 : (1 ≤ s ∧ s ≤ 8) ∧ 8 ≤ r ∧ r ≤ 128
      · rw [if_pos c3, if_pos c3, if_pos (show aLike A of of from ⟨rfl, rfl⟩)]
      · rw [if_neg c3, if_neg c3]
    · rw [if_neg c1, if_neg c1]
  refine zC_of 3 rfl (Nat.le_of_ble_eq_true rfl) ?_
  by_cases hc : aWhy A of of s r n = 0
  · have hcc := aWhy_0 hc
    have hs1 := hcc.2.2.1.1
    have hr1 := hcc.2.2.1.2
    have hn1 := hcc.2.2.2.1
    obtain ⟨T, hT⟩ : ∃ T, aRest s r n 20 0 (A.1 of.toNat) = T := ⟨_, rfl⟩
    have hans : ∀ v : Int, v = T → v = (aRest s r n 20 0 (A.1 of.toNat), A).1 := fun v hv => hv.trans hT.symm
    have loop : ∀ (m k : Nat) (p : zPc) (σs τs : zSt), m + k = 20 → aRest s r n m k p = T → mScr C σ σs → mScT C τ τs → mrPic (σs (C + 9)) 1358 p → 0 < p.1 → zW G M_X11_rests (mQ C (sp_rests A of s r n)) 73 [some (.ref C), some (vi of), some (vi s), some (vi r), some (vi n), some (vi 0), some (vi k), none] [] (zmS C, σs, τs) := by
      clear hT
      intro m
      induction m with
      | zero =>
        intro k p σs τs hk hE hs2 ht2 hp h0
        have hE : (-2 : Int) = T := hE
        refine zw_iload 75 rfl dX11_rests_73 rfl ?_
        refine zw_bipush 77 rfl dX11_rests_75 rfl ?_
        refine zw_icmp_ge 153 80 rfl dX11_rests_77 (by decide) (by omega) (by omega) (fun h_77 => ?_) (fun h_77 => ?_)
        · refine zw_aload_n 154 rfl dX11_rests_153 rfl ?_
          refine zw_bipush 156 rfl dX11_rests_154 rfl ?_
          refine zw_cVi1 159 rfl dX11_rests_156 kX11_rests_157 (Nat.le_of_ble_eq_true rfl) (by first | assumption | exact zm_o0 | exact zm_o _ _ _ rfl) m_good ?_
          exact zw_iret (st := []) dX11_rests_159 rfl (mRead h hs2 ht2 (hsp.trans hc) (hans _ hE) rfl)
        · exfalso; omega
      | succ m ih =>
        intro k p σs τs hk hE hs2 ht2 hp h0
        have hq := hp.o h0
        have hww := hq.wh
        have hOr := aOth_r (p := aSmo p p s r n) (q := p) hww
        simp only [aRest] at hE
        have copy : ∀ σ3 τ3 : zSt, ¬ aOth (aSmo p p s r n) p = 0 → mScr C σ σ3 → mScT C τ τ3 → mrPic (σ3 (C + 9)) 1164 (aSmo p p s r n) → zW G M_X11_rests (mQ C (sp_rests A of s r n)) 111 [some (.ref C), some (vi of), some (vi s), some (vi r), some (vi n), some (vi 0), some (vi k), some (vi (0 : Nat))] [] (zmS C, σ3, τ3) := by
          intro σ3 τ3 hne hs3 ht3 hpic
          rw [if_neg hne] at hE
          have key : ∀ σ4 : zSt, (∀ b j, b ≠ C + 9 → σ4 b j = σ3 b j) → σ4 (C + 9) = zcpy (σ3 (C + 9)) (σ3 (C + 9)) 0 1164 1358 → zW G M_X11_rests (mQ C (sp_rests A of s r n)) 111 [some (.ref C), some (vi of), some (vi s), some (vi r), some (vi n), some (vi 0), some (vi k), some (vi (0 : Nat))] [] (zmS C, σ4, τ3) := by
            refine zloop (n := 194) (L := fun i => ∀ σ4 : zSt, (∀ b j, b ≠ C + 9 → σ4 b j = σ3 b j) → σ4 (C + 9) = zcpy (σ3 (C + 9)) (σ3 (C + 9)) i 1164 1358 → zW G M_X11_rests (mQ C (sp_rests A of s r n)) 111 [some (.ref C), some (vi of), some (vi s), some (vi r), some (vi n), some (vi 0), some (vi k), some (vi i)] [] (zmS C, σ4, τ3)) ?_ ?_
            · intro σ4 e1 e2
              refine zw_iload 113 rfl dX11_rests_111 rfl ?_
              refine zw_sipush 116 rfl dX11_rests_113 rfl ?_
              refine zw_icmp_ge 147 119 rfl dX11_rests_116 (by decide) (by omega) (by omega) (fun h_116 => ?_) (fun h_116 => ?_)
              · refine zw_iinc 150 rfl dX11_rests_147 (Nat.le_of_ble_eq_true rfl) rfl rfl ?_
                refine zw_goto 73 dX11_rests_150 (by decide) ?_
                refine zw_drop 7 ?_
                refine ih (k + 1) (aSmo p p s r n) σ4 τ3 (by omega) hE (fun b j hk => ?_) ht3 ?_ h0
                · by_cases q : b = C + 9
                  · subst q; rw [e2, zcpy_out _ _ (by unfold mKey at hk; omega)]; exact hs3 _ _ hk
                  · rw [e1 b j q]; exact hs3 b j hk
                · refine hpic.mv (fun j hj => ?_)
                  rw [e2, zcpy_in _ _ hj, Nat.add_comm j]
              · exfalso; omega
            · intro i hi ih2 σ4 e1 e2
              refine zw_iload 113 rfl dX11_rests_111 rfl ?_
              refine zw_sipush 116 rfl dX11_rests_113 rfl ?_
              refine zw_icmp_ge 147 119 rfl dX11_rests_116 (by decide) (by omega) (by omega) (fun h_116 => ?_) (fun h_116 => ?_)
              · exfalso; omega
              · refine zw_aload_n 120 rfl dX11_rests_119 rfl ?_
                refine zw_getr 123 rfl dX11_rests_120 fl_X11_38 (by first | assumption | exact zm_o0 | exact zm_o _ _ _ rfl) (by first | assumption | exact zm_f _ _ rfl) ?_
                refine zw_sipush 126 rfl dX11_rests_123 rfl ?_
                refine zw_iload 128 rfl dX11_rests_126 rfl ?_
                refine zw_iadd 129 rfl dX11_rests_128 ?_
                refine zw_aload_n 130 rfl dX11_rests_129 rfl ?_
                refine zw_getr 133 rfl dX11_rests_130 fl_X11_38 (by first | assumption | exact zm_o0 | exact zm_o _ _ _ rfl) (by first | assumption | exact zm_f _ _ rfl) ?_
                refine zw_sipush 136 rfl dX11_rests_133 rfl ?_
                refine zw_iload 138 rfl dX11_rests_136 rfl ?_
                refine zw_iadd 139 rfl dX11_rests_138 ?_
                refine zw_iald 140 rfl dX11_rests_139 (by first | assumption | exact zm_o0 | exact zm_o _ _ _ rfl) (by omega) (by omega) ?_
                rw [e2, show ((1164 : Int) + (i : Int)).toNat = i + 1164 by omega, zcpy_out _ _ (Or.inl (by omega))]
                refine zw_iast 141 rfl dX11_rests_140 (by first | assumption | exact zm_o0 | exact zm_o _ _ _ rfl) (by omega) (by omega) ?_
                refine zw_iinc 144 rfl dX11_rests_141 (Nat.le_of_ble_eq_true rfl) rfl rfl ?_
                refine zw_goto 111 dX11_rests_144 (by decide) ?_
                refine ih2 _ (fun b j hb => by rw [zu_a _ _ hb]; exact e1 b j hb) ?_
                rw [show ((1358 : Int) + (i : Int)).toNat = 1358 + i by omega, zu_row2, e2]
                exact zcpy_s _ _ i 1164 1358
          exact key σ3 (fun _ _ _ => rfl) (by rw [zcpy_0])
        refine zw_iload 75 rfl dX11_rests_73 rfl ?_
        refine zw_bipush 77 rfl dX11_rests_75 rfl ?_
        refine zw_icmp_ge 153 80 rfl dX11_rests_77 (by decide) (by omega) (by omega) (fun h_77 => ?_) (fun h_77 => ?_)
        · exfalso; omega
        · refine zw_aload_n 81 rfl dX11_rests_80 rfl ?_
          refine zw_bipush 83 rfl dX11_rests_81 rfl ?_
          refine zw_bipush 85 rfl dX11_rests_83 rfl ?_
          refine zw_iload_n 86 rfl dX11_rests_85 rfl ?_
          refine zw_iload_n 87 rfl dX11_rests_86 rfl ?_
          refine zw_iload 89 rfl dX11_rests_87 rfl ?_
          refine zw_cVr5 92 rfl dX11_rests_89 kX11_rests_303 (Nat.le_of_ble_eq_true rfl) (by first | assumption | exact zm_o0 | exact zm_o _ _ _ rfl) (m_smooths hq hq (by omega) (by omega) rfl rfl hs1 hr1 hn1) ?_
          rintro _ _ ⟨rfl, σ3, τ3, rfl, hs3, ht3, hpic⟩
          have hs4 := hs2.tr hs3.s
          have ht4 := ht2.tr ht3
          refine zw_aload_n 93 rfl dX11_rests_92 rfl ?_
          refine zw_bipush 95 rfl dX11_rests_93 rfl ?_
          refine zw_cVi1 98 rfl dX11_rests_95 kX11_rests_213 (Nat.le_of_ble_eq_true rfl) (by first | assumption | exact zm_o0 | exact zm_o _ _ _ rfl) (m_others (hq.s (by omega) hs3) (hpic.n h0) rfl rfl) ?_
          refine zw_if_ne 108 101 rfl dX11_rests_98 (by decide) (by omega) (fun h_98 => ?_) (fun h_98 => ?_)
          · refine zw_iconst 109 rfl dX11_rests_108 ?_
            refine zw_istore 111 rfl dX11_rests_109 (Nat.le_of_ble_eq_true rfl) rfl ?_
            exact copy σ3 τ3 h_98 hs4 ht4 hpic
          · refine zw_aload_n 102 rfl dX11_rests_101 rfl ?_
            refine zw_iload 104 rfl dX11_rests_102 rfl ?_
            refine zw_cVi1 107 rfl dX11_rests_104 kX11_rests_157 (Nat.le_of_ble_eq_true rfl) (by first | assumption | exact zm_o0 | exact zm_o _ _ _ rfl) m_good ?_
            rw [if_pos h_98] at hE
            exact zw_iret (st := []) dX11_rests_107 rfl (mRead h hs4 ht4 (hsp.trans hc) (hans _ hE) rfl)
    have hq := hP.pc hcc.1
    have copy0 : ∀ σ4 : zSt, (∀ b j, b ≠ C + 9 → σ4 b j = zu σ C 0 0 b j) → σ4 (C + 9) = zcpy (σ (C + 9)) (σ (C + 9)) 0 (194 * of.toNat) 1358 → zW G M_X11_rests (mQ C (sp_rests A of s r n)) 32 [some (.ref C), some (vi of), some (vi s), some (vi r), some (vi n), some (vi 0), some (vi (0 : Nat)), none] [] (zmS C, σ4, τ) := by
      have ho : 0 ≤ of ∧ of ≤ 5 := hcc.1.1
      refine zloop (n := 194) (L := fun i => ∀ σ4 : zSt, (∀ b j, b ≠ C + 9 → σ4 b j = zu σ C 0 0 b j) → σ4 (C + 9) = zcpy (σ (C + 9)) (σ (C + 9)) i (194 * of.toNat) 1358 → zW G M_X11_rests (mQ C (sp_rests A of s r n)) 32 [some (.ref C), some (vi of), some (vi s), some (vi r), some (vi n), some (vi 0), some (vi i), none] [] (zmS C, σ4, τ)) ?_ ?_
      · intro σ4 e1 e2
        refine zw_iload 34 rfl dX11_rests_32 rfl ?_
        refine zw_sipush 37 rfl dX11_rests_34 rfl ?_
        refine zw_icmp_ge 70 40 rfl dX11_rests_37 (by decide) (by omega) (by omega) (fun h_37 => ?_) (fun h_37 => ?_)
        · refine zw_iconst 71 rfl dX11_rests_70 ?_
          refine zw_istore 73 rfl dX11_rests_71 (Nat.le_of_ble_eq_true rfl) rfl ?_
          refine loop 20 0 (A.1 of.toNat) σ4 τ rfl hT (fun b j hk => ?_) mScT.rf ?_ hcc.1.2
          · by_cases q : b = C + 9
            · subst q; rw [e2, zcpy_out _ _ (by unfold mKey at hk; omega)]
            · rw [e1 b j q]; exact mThrown b j hk
          · have hq9 := hq.2.1
            rw [zu_row _ _ (by omega)] at hq9
            refine hq9.mv (fun j hj => ?_)
            rw [e2, zcpy_in _ _ hj, Nat.add_comm j]
        · exfalso; omega
      · intro i hi ih2 σ4 e1 e2
        refine zw_iload 34 rfl dX11_rests_32 rfl ?_
        refine zw_sipush 37 rfl dX11_rests_34 rfl ?_
        refine zw_icmp_ge 70 40 rfl dX11_rests_37 (by decide) (by omega) (by omega) (fun h_37 => ?_) (fun h_37 => ?_)
        · exfalso; omega
        · refine zw_aload_n 41 rfl dX11_rests_40 rfl ?_
          refine zw_getr 44 rfl dX11_rests_41 fl_X11_38 (by first | assumption | exact zm_o0 | exact zm_o _ _ _ rfl) (by first | assumption | exact zm_f _ _ rfl) ?_
          refine zw_sipush 47 rfl dX11_rests_44 rfl ?_
          refine zw_iload 49 rfl dX11_rests_47 rfl ?_
          refine zw_iadd 50 rfl dX11_rests_49 ?_
          refine zw_aload_n 51 rfl dX11_rests_50 rfl ?_
          refine zw_getr 54 rfl dX11_rests_51 fl_X11_38 (by first | assumption | exact zm_o0 | exact zm_o _ _ _ rfl) (by first | assumption | exact zm_f _ _ rfl) ?_
          refine zw_sipush 57 rfl dX11_rests_54 rfl ?_
          refine zw_iload_n 58 rfl dX11_rests_57 rfl ?_
          refine zw_imul 59 rfl dX11_rests_58 ?_
          refine zw_iload 61 rfl dX11_rests_59 rfl ?_
          refine zw_iadd 62 rfl dX11_rests_61 ?_
          refine zw_iald 63 rfl dX11_rests_62 (by first | assumption | exact zm_o0 | exact zm_o _ _ _ rfl) (by omega) (by omega) ?_
          rw [e2, show (194 * of + (i : Int)).toNat = i + 194 * of.toNat by omega, zcpy_out _ _ (Or.inl (by omega))]
          refine zw_iast 64 rfl dX11_rests_63 (by first | assumption | exact zm_o0 | exact zm_o _ _ _ rfl) (by omega) (by omega) ?_
          refine zw_iinc 67 rfl dX11_rests_64 (Nat.le_of_ble_eq_true rfl) rfl rfl ?_
          refine zw_goto 32 dX11_rests_67 (by decide) ?_
          refine ih2 _ (fun b j hb => by rw [zu_a _ _ hb]; exact e1 b j hb) ?_
          rw [show ((1358 : Int) + (i : Int)).toNat = 1358 + i by omega, zu_row2, e2]
          exact zcpy_s _ _ i (194 * of.toNat) 1358
    refine zw_aload_n 1 rfl dX11_rests_0 rfl ?_
    refine zw_iconst 2 rfl dX11_rests_1 ?_
    refine zw_puti 5 rfl dX11_rests_2 fp_X11_85 (by first | assumption | exact zm_o0 | exact zm_o _ _ _ rfl) ?_
    refine zw_aload_n 6 rfl dX11_rests_5 rfl ?_
    refine zw_iload_n 7 rfl dX11_rests_6 rfl ?_
    refine zw_iload_n 8 rfl dX11_rests_7 rfl ?_
    refine zw_iload_n 9 rfl dX11_rests_8 rfl ?_
    refine zw_iload_n 10 rfl dX11_rests_9 rfl ?_
    refine zw_iload 12 rfl dX11_rests_10 rfl ?_
    refine zw_cVi5 15 rfl dX11_rests_12 kX11_rests_299 (Nat.le_of_ble_eq_true rfl) (by first | assumption | exact zm_o0 | exact zm_o _ _ _ rfl) (m_refusesSm hP hof hof hs hr hn) ?_
    rw [hc]
    refine zw_istore 17 rfl dX11_rests_15 (Nat.le_of_ble_eq_true rfl) rfl ?_
    refine zw_iload 19 rfl dX11_rests_17 rfl ?_
    refine zw_if_le 29 22 rfl dX11_rests_19 (by decide) (by omega) (fun h_19 => ?_) (fun h_19 => ?_)
    · refine zw_iconst 30 rfl dX11_rests_29 ?_
      refine zw_istore 32 rfl dX11_rests_30 (Nat.le_of_ble_eq_true rfl) rfl ?_
      refine copy0 _ (fun _ _ _ => rfl) ?_
      rw [zcpy_0, zu_row _ _ (by omega)]
    · exfalso; omega
  refine zw_aload_n 1 rfl dX11_rests_0 rfl ?_
  refine zw_iconst 2 rfl dX11_rests_1 ?_
  refine zw_puti 5 rfl dX11_rests_2 fp_X11_85 (by first | assumption | exact zm_o0 | exact zm_o _ _ _ rfl) ?_
  refine zw_aload_n 6 rfl dX11_rests_5 rfl ?_
  refine zw_iload_n 7 rfl dX11_rests_6 rfl ?_
  refine zw_iload_n 8 rfl dX11_rests_7 rfl ?_
  refine zw_iload_n 9 rfl dX11_rests_8 rfl ?_
  refine zw_iload_n 10 rfl dX11_rests_9 rfl ?_
  refine zw_iload 12 rfl dX11_rests_10 rfl ?_
  refine zw_cVi5 15 rfl dX11_rests_12 kX11_rests_299 (Nat.le_of_ble_eq_true rfl) (by first | assumption | exact zm_o0 | exact zm_o _ _ _ rfl) (m_refusesSm hP hof hof hs hr hn) ?_
  refine zw_istore 17 rfl dX11_rests_15 (Nat.le_of_ble_eq_true rfl) rfl ?_
  refine zw_iload 19 rfl dX11_rests_17 rfl ?_
  refine zw_if_le 29 22 rfl dX11_rests_19 (by decide) (by omega) (fun h_19 => ?_) (fun h_19 => ?_)
  · exfalso; omega
  · refine zw_aload_n 23 rfl dX11_rests_22 rfl ?_
    refine zw_iload 25 rfl dX11_rests_23 rfl ?_
    refine zw_cVi1 28 rfl dX11_rests_25 kX11_rests_147 (Nat.le_of_ble_eq_true rfl) (by first | assumption | exact zm_o0 | exact zm_o _ _ _ rfl) m_refused ?_
    exact zw_iret (st := []) dX11_rests_28 rfl (mRef h mThrown mScT.rf hsp (by omega))
