/-! ===== the model's grid ===== -/
theorem zmR.g {C : Nat} {σ τ : zSt} {A : zA} (h : zmR C σ τ A) : mrG C σ τ (aG A) := h.2.2.2.2.2.1
theorem zmR.made {C : Nat} {σ τ : zSt} {A : zA} (h : zmR C σ τ A) (hm : aMade A) : mrL C σ τ 0 (aGG A) ∧ mrPic (σ (C + 18)) 0 (aGG A).2.1 := by
  have hg := h.g
  unfold aMade at hm
  unfold aGG
  cases e : aG A with
  | none => rw [e] at hm; exact absurd hm (by decide)
  | some g => rw [e] at hg; exact hg.2
theorem zmR.has {C : Nat} {σ τ : zSt} {A : zA} (h : zmR C σ τ A) : σ C 32 = zb (aMade A) := by
  have hg := h.g
  unfold aMade
  cases e : aG A with
  | none => rw [e] at hg; exact hg
  | some g => rw [e] at hg; exact hg.1
theorem zmR.grid {C : Nat} {σ σ' τ τ' : zSt} {A : zA} {g : zGr} (h : zmR C σ τ A) (hf : ∀ b j, mKey C b j → ¬ (b = C ∧ j = 32) → ¬ (C + 15 ≤ b ∧ b ≤ C + 18) → σ' b j = σ b j) (h1 : σ' C 32 = 1) (h2 : mrL C σ' τ' 0 g) (h3 : mrPic (σ' (C + 18)) 0 g.2.1) : zmR C (zu (zu σ' C 1 0) C 2 (-1)) τ' (aSet (aGs A g) 0) := by
  obtain ⟨a1, a2, a3, a4, a5, a6, a7⟩ := h
  generalize hσ2 : zu (zu σ' C 1 0) C 2 (-1) = σ2
  have f1 : ∀ b j, ¬ (b = C ∧ j = 1) → ¬ (b = C ∧ j = 2) → σ2 b j = σ' b j := fun b j h1 h2 => by rw [← hσ2, zu_ne _ _ h2, zu_ne _ _ h1]
  have f2 : ∀ b j, mKey C b j → ¬ (b = C ∧ j = 32) → ¬ (C + 15 ≤ b ∧ b ≤ C + 18) → σ2 b j = σ b j := fun b j q1 q2 q3 => by
    rw [f1 b j (by unfold mKey at q1; omega) (by unfold mKey at q1; omega)]; exact hf b j q1 q2 q3
  refine ⟨a1.mv (fun j _ => f2 _ _ (by unfold mKey; omega) (by omega) (by omega)), a2.c (f2 _ _ (by unfold mKey; omega) (by omega) (by omega)) (fun j => f2 _ _ (by unfold mKey; omega) (by omega) (by omega)), a3.c (f2 _ _ (by unfold mKey; omega) (by omega) (by omega)) (fun j => f2 _ _ (by unfold mKey; omega) (by omega) (by omega)), ⟨by rw [← hσ2, zu_k _ _ (by omega), zu_eq]; rfl, by rw [← hσ2, zu_eq]; rfl, (f2 C 7 (by unfold mKey; omega) (by omega) (by omega)).trans a4.2.2⟩, a5.c (f2 _ _ (by unfold mKey; omega) (by omega) (by omega)) (fun j => f2 _ _ (by unfold mKey; omega) (by omega) (by omega)) (fun j => f2 _ _ (by unfold mKey; omega) (by omega) (by omega)), ⟨(f1 _ _ (by omega) (by omega)).trans h1, h2.c (f1 _ _ (by omega) (by omega)) (f1 _ _ (by omega) (by omega)) (fun j hj => f1 _ _ (by omega) (by omega)) (fun j hj => ⟨rfl, rfl⟩), h3.mv (fun j _ => f1 _ _ (by omega) (by omega))⟩, a7.c (f2 _ _ (by unfold mKey; omega) (by omega) (by omega)) (fun j => f2 _ _ (by unfold mKey; omega) (by omega) (by omega))⟩
theorem m_areSteps {G : zG} {S : zSh} {σ τ : zSt} {u v : Int} (hu : -2147483648 ≤ u ∧ u ≤ 2147483647) (hv : -2147483648 ≤ v ∧ v ≤ 2147483647) : zC G M_X11_areSteps [vi u, vi v] (S, σ, τ) (zR (some (vi (zb ((1 ≤ u ∧ u ≤ 8) ∧ 8 ≤ v ∧ v ≤ 128)))) (S, σ, τ)) := by
  refine zC_of 0 rfl (Nat.le_of_ble_eq_true rfl) ?_
  refine zw_iload_n 1 rfl dX11_areSteps_0 rfl ?_
  refine zw_iconst 2 rfl dX11_areSteps_1 ?_
  refine zw_bipush 4 rfl dX11_areSteps_2 rfl ?_
  refine zw_cSi3 7 rfl dX11_areSteps_4 kX11_areSteps_106 (Nat.le_of_ble_eq_true rfl) (m_in (by omega) (by omega) (by omega)) ?_
  refine zw_if_eqB 26 10 rfl dX11_areSteps_7 (by decide) (fun h_7 => ?_) (fun h_7 => ?_)
  · refine zw_iconst 27 rfl dX11_areSteps_26 ?_
    exact zw_zretR dX11_areSteps_27 rfl (by omega) (by first | exact zb_t ⟨h_7, h_19⟩ | exact zb_f (fun q => h_7 q.1) | exact zb_f (fun q => h_19 q.2)) rfl
  · refine zw_iload_n 11 rfl dX11_areSteps_10 rfl ?_
    refine zw_bipush 13 rfl dX11_areSteps_11 rfl ?_
    refine zw_sipush 16 rfl dX11_areSteps_13 rfl ?_
    refine zw_cSi3 19 rfl dX11_areSteps_16 kX11_areSteps_106 (Nat.le_of_ble_eq_true rfl) (m_in (by omega) (by omega) (by omega)) ?_
    refine zw_if_eqB 26 22 rfl dX11_areSteps_19 (by decide) (fun h_19 => ?_) (fun h_19 => ?_)
    · refine zw_iconst 27 rfl dX11_areSteps_26 ?_
      exact zw_zretR dX11_areSteps_27 rfl (by omega) (by first | exact zb_t ⟨h_7, h_19⟩ | exact zb_f (fun q => h_7 q.1) | exact zb_f (fun q => h_19 q.2)) rfl
    · refine zw_iconst 23 rfl dX11_areSteps_22 ?_
      refine zw_goto 27 dX11_areSteps_23 (by decide) ?_
      exact zw_zretR dX11_areSteps_27 rfl (by omega) (by first | exact zb_t ⟨h_7, h_19⟩ | exact zb_f (fun q => h_7 q.1) | exact zb_f (fun q => h_19 q.2)) rfl
theorem Y_grid {G : zG} {C : Nat} {σ τ : zSt} {A : zA} {of gu s r : Int} (h : zmR C σ τ A) (hof : -2147483648 ≤ of ∧ of ≤ 2147483647) (hgu : -2147483648 ≤ gu ∧ gu ≤ 2147483647) (hs : -2147483648 ≤ s ∧ s ≤ 2147483647) (hr : -2147483648 ≤ r ∧ r ≤ 2147483647) : zC G M_X11_grid [.ref C, vi of, vi gu, vi s, vi r] (zmS C, σ, τ) (mQ C (sp_grid A of gu s r)) := by
  have hP := (mThrown (v := 0)).P h.p
  refine zC_of 1 rfl (Nat.le_of_ble_eq_true rfl) ?_
  have key : aTold A of → aTold A gu → ((1 ≤ s ∧ s ≤ 8) ∧ 8 ≤ r ∧ r ≤ 128) → aLike A of gu → ∀ σ1 τ1 : zSt, mSpr C 0 (zu σ C 0 0) σ1 τ τ1 (aSmG (A.1 of.toNat) (A.1 gu.toNat) s r 0) → zW G M_X11_grid (mQ C (sp_grid A of gu s r)) 70 [some (.ref C), some (vi of), some (vi gu), some (vi s), some (vi r), some (vi (0 : Nat))] [] (zmS C, σ1, τ1) := by
    intro hc1 hc2 hc3 hc4 σ1 τ1 hsp
    obtain ⟨p1, p2, p3, p4, p5, p6⟩ := hsp
    have hq1 := hP.pc hc1
    have hq2 := hP.pc hc2
    have hok := aSmG_ok (n := 0) hq1.wh hc4.1.symm hc4.2.symm hc3.1 hc3.2 (by omega) hq1.dots hq2.dots
    have hpg := hq2.f (σ' := σ1) (fun j => p1 _ _ (by omega) (by omega) (by omega) (by omega))
    have key2 : ∀ σs : zSt, (∀ b j, b ≠ C + 18 → σs b j = σ1 b j) → (∀ j, j < 0 → σs (C + 18) j = σ1 (C + 9) (194 * gu.toNat + j)) → zW G M_X11_grid (mQ C (sp_grid A of gu s r)) 70 [some (.ref C), some (vi of), some (vi gu), some (vi s), some (vi r), some (vi (0 : Nat))] [] (zmS C, σs, τ1) := by
      refine zloop (n := 194) (L := fun k => ∀ σs : zSt, (∀ b j, b ≠ C + 18 → σs b j = σ1 b j) → (∀ j, j < k → σs (C + 18) j = σ1 (C + 9) (194 * gu.toNat + j)) → zW G M_X11_grid (mQ C (sp_grid A of gu s r)) 70 [some (.ref C), some (vi of), some (vi gu), some (vi s), some (vi r), some (vi k)] [] (zmS C, σs, τ1)) ?_ ?_
      · intro σs f1 f2
        have fin := h.grid (σ' := zu σs C 32 1) (τ' := τ1) (g := aSmG (A.1 of.toNat) (A.1 gu.toNat) s r 0) (fun b j q1 q2 q3 => by rw [zu_ne _ _ (by omega), f1 _ _ (by omega), p1 _ _ (by unfold mKey at q1; omega) (by omega) (by omega) (by omega), zu_ne _ _ (by unfold mKey at q1; omega)]) (zu_eq _ _ _ _) (p6.l hok (by rw [zu_ne _ _ (by omega), f1 _ _ (by omega)]; exact p2) (by rw [zu_ne _ _ (by omega), f1 _ _ (by omega)]; exact p3) (by rw [zu_ne _ _ (by omega), f1 _ _ (by omega)]; exact p4 0 (by omega)) (by rw [zu_ne _ _ (by omega), f1 _ _ (by omega)]; exact p4 1 (by omega)) (by rw [zu_ne _ _ (by omega), f1 _ _ (by omega)]; exact p4 2 (by omega))) (hpg.2.1.mv (fun j hj => by rw [zu_ne _ _ (by omega), Nat.zero_add]; exact f2 j hj))
        refine zw_iload 72 rfl dX11_grid_70 rfl ?_
        refine zw_sipush 75 rfl dX11_grid_72 rfl ?_
        refine zw_icmp_ge 104 78 rfl dX11_grid_75 (by decide) (by omega) (by omega) (fun h_75 => ?_) (fun h_75 => ?_)
        · refine zw_aload_n 105 rfl dX11_grid_104 rfl ?_
          refine zw_iconst 106 rfl dX11_grid_105 ?_
          refine zw_putz 109 rfl dX11_grid_106 fp_X11_166 (by first | assumption | exact zm_o0 | exact zm_o _ _ _ rfl) (by omega) ?_
          refine zw_aload_n 110 rfl dX11_grid_109 rfl ?_
          refine zw_aload_n 111 rfl dX11_grid_110 rfl ?_
          refine zw_cVi0 114 rfl dX11_grid_111 kX11_grid_274 (Nat.le_of_ble_eq_true rfl) (by first | assumption | exact zm_o0 | exact zm_o _ _ _ rfl) (m_weighed p6 hok) ?_
          refine zw_cVi1 117 rfl dX11_grid_114 kX11_grid_157 (Nat.le_of_ble_eq_true rfl) (by first | assumption | exact zm_o0 | exact zm_o _ _ _ rfl) m_good ?_
          refine zw_iret (st := []) dX11_grid_117 rfl ?_
          unfold sp_grid
          rw [aAns, if_pos (by simp only [if_pos hc1, if_pos hc2, if_pos hc3, if_pos hc4])]
          exact ⟨rfl, _, _, rfl, fin⟩
        · exfalso; omega
      · intro k hk ih σs f1 f2
        refine zw_iload 72 rfl dX11_grid_70 rfl ?_
        refine zw_sipush 75 rfl dX11_grid_72 rfl ?_
        refine zw_icmp_ge 104 78 rfl dX11_grid_75 (by decide) (by omega) (by omega) (fun h_75 => ?_) (fun h_75 => ?_)
        · exfalso; omega
        · refine zw_aload_n 79 rfl dX11_grid_78 rfl ?_
          refine zw_getr 82 rfl dX11_grid_79 fl_X11_67 (by first | assumption | exact zm_o0 | exact zm_o _ _ _ rfl) (by first | assumption | exact zm_f _ _ rfl) ?_
          refine zw_iload 84 rfl dX11_grid_82 rfl ?_
          refine zw_aload_n 85 rfl dX11_grid_84 rfl ?_
          refine zw_getr 88 rfl dX11_grid_85 fl_X11_38 (by first | assumption | exact zm_o0 | exact zm_o _ _ _ rfl) (by first | assumption | exact zm_f _ _ rfl) ?_
          refine zw_sipush 91 rfl dX11_grid_88 rfl ?_
          refine zw_iload_n 92 rfl dX11_grid_91 rfl ?_
          refine zw_imul 93 rfl dX11_grid_92 ?_
          refine zw_iload 95 rfl dX11_grid_93 rfl ?_
          refine zw_iadd 96 rfl dX11_grid_95 ?_
          refine zw_iald 97 rfl dX11_grid_96 (by first | assumption | exact zm_o0 | exact zm_o _ _ _ rfl) (by omega) (by omega) ?_
          rw [f1 _ _ (by omega), show (194 * gu + (k : Int)).toNat = 194 * gu.toNat + k by omega]
          refine zw_iast 98 rfl dX11_grid_97 (by first | assumption | exact zm_o0 | exact zm_o _ _ _ rfl) (by omega) (by omega) ?_
          refine zw_iinc 101 rfl dX11_grid_98 (Nat.le_of_ble_eq_true rfl) rfl rfl ?_
          refine zw_goto 70 dX11_grid_101 (by decide) ?_
          rw [Int.toNat_natCast]
          refine ih _ (fun b j hb => by rw [zu_a _ _ hb]; exact f1 b j hb) (fun j hj => ?_)
          by_cases q : j = k
          · subst q; rw [zu_eq]
          · rw [zu_k _ _ q]; exact f2 j (by omega)
    exact key2 σ1 (fun _ _ _ => rfl) (fun j hj => absurd hj (by omega))
  refine zw_aload_n 1 rfl dX11_grid_0 rfl ?_
  refine zw_iconst 2 rfl dX11_grid_1 ?_
  refine zw_puti 5 rfl dX11_grid_2 fp_X11_85 (by first | assumption | exact zm_o0 | exact zm_o _ _ _ rfl) ?_
  refine zw_aload_n 6 rfl dX11_grid_5 rfl ?_
  refine zw_iload_n 7 rfl dX11_grid_6 rfl ?_
  refine zw_cVi1 10 rfl dX11_grid_7 kX11_grid_173 (Nat.le_of_ble_eq_true rfl) (by first | assumption | exact zm_o0 | exact zm_o _ _ _ rfl) (m_isPicture hP hof) ?_
  refine zw_if_eqB 21 13 rfl dX11_grid_10 (by decide) (fun h_10 => ?_) (fun h_10 => ?_)
  · refine zw_aload_n 22 rfl dX11_grid_21 rfl ?_
    refine zw_iconst 23 rfl dX11_grid_22 ?_
    refine zw_cVi1 26 rfl dX11_grid_23 kX11_grid_147 (Nat.le_of_ble_eq_true rfl) (by first | assumption | exact zm_o0 | exact zm_o _ _ _ rfl) m_refused ?_
    exact zw_iret (st := []) dX11_grid_26 rfl (mRef h mThrown mScT.rf (by simp only [if_neg h_10, if_true, if_false]) (by omega))
  · refine zw_aload_n 14 rfl dX11_grid_13 rfl ?_
    refine zw_iload_n 15 rfl dX11_grid_14 rfl ?_
    refine zw_cVi1 18 rfl dX11_grid_15 kX11_grid_173 (Nat.le_of_ble_eq_true rfl) (by first | assumption | exact zm_o0 | exact zm_o _ _ _ rfl) (m_isPicture hP hgu) ?_
    refine zw_if_neB 27 21 rfl dX11_grid_18 (by decide) (fun h_18 => ?_) (fun h_18 => ?_)
    · refine zw_iload_n 28 rfl dX11_grid_27 rfl ?_
      refine zw_iload 30 rfl dX11_grid_28 rfl ?_
      refine zw_cSi2 33 rfl dX11_grid_30 kX11_grid_263 (Nat.le_of_ble_eq_true rfl) (m_areSteps hs hr) ?_
      refine zw_if_neB 42 36 rfl dX11_grid_33 (by decide) (fun h_33 => ?_) (fun h_33 => ?_)
      · refine zw_aload_n 43 rfl dX11_grid_42 rfl ?_
        refine zw_iload_n 44 rfl dX11_grid_43 rfl ?_
        refine zw_iload_n 45 rfl dX11_grid_44 rfl ?_
        refine zw_cVi2 48 rfl dX11_grid_45 kX11_grid_267 (Nat.le_of_ble_eq_true rfl) (by first | assumption | exact zm_o0 | exact zm_o _ _ _ rfl) (m_areAsWide (hP.pc h_10) (hP.pc h_18)) ?_
        refine zw_if_neB 57 51 rfl dX11_grid_48 (by decide) (fun h_48 => ?_) (fun h_48 => ?_)
        · refine zw_aload_n 58 rfl dX11_grid_57 rfl ?_
          refine zw_iconst 59 rfl dX11_grid_58 ?_
          refine zw_iload_n 60 rfl dX11_grid_59 rfl ?_
          refine zw_iload_n 61 rfl dX11_grid_60 rfl ?_
          refine zw_iload_n 62 rfl dX11_grid_61 rfl ?_
          refine zw_iload 64 rfl dX11_grid_62 rfl ?_
          refine zw_cVr5 67 rfl dX11_grid_64 kX11_grid_270 (Nat.le_of_ble_eq_true rfl) (by first | assumption | exact zm_o0 | exact zm_o _ _ _ rfl) (m_spreads (g := 0) (by omega) (hP.pc h_10) (hP.pc h_18) h_48.1.symm h_48.2.symm h_33.1 h_33.2) ?_
          rintro _ _ ⟨rfl, σ3, τ3, rfl, hsp⟩
          refine zw_iconst 68 rfl dX11_grid_67 ?_
          refine zw_istore 70 rfl dX11_grid_68 (Nat.le_of_ble_eq_true rfl) rfl ?_
          exact key h_10 h_18 h_33 h_48 σ3 τ3 hsp
        · refine zw_aload_n 52 rfl dX11_grid_51 rfl ?_
          refine zw_iconst 53 rfl dX11_grid_52 ?_
          refine zw_cVi1 56 rfl dX11_grid_53 kX11_grid_147 (Nat.le_of_ble_eq_true rfl) (by first | assumption | exact zm_o0 | exact zm_o _ _ _ rfl) m_refused ?_
          exact zw_iret (st := []) dX11_grid_56 rfl (mRef h mThrown mScT.rf (by simp only [if_pos h_10, if_pos h_18, if_pos h_33, if_neg h_48, if_true, if_false]) (by omega))
      · refine zw_aload_n 37 rfl dX11_grid_36 rfl ?_
        refine zw_iconst 38 rfl dX11_grid_37 ?_
        refine zw_cVi1 41 rfl dX11_grid_38 kX11_grid_147 (Nat.le_of_ble_eq_true rfl) (by first | assumption | exact zm_o0 | exact zm_o _ _ _ rfl) m_refused ?_
        exact zw_iret (st := []) dX11_grid_41 rfl (mRef h mThrown mScT.rf (by simp only [if_pos h_10, if_pos h_18, if_neg h_33, if_true, if_false]) (by omega))
    · refine zw_aload_n 22 rfl dX11_grid_21 rfl ?_
      refine zw_iconst 23 rfl dX11_grid_22 ?_
      refine zw_cVi1 26 rfl dX11_grid_23 kX11_grid_147 (Nat.le_of_ble_eq_true rfl) (by first | assumption | exact zm_o0 | exact zm_o _ _ _ rfl) m_refused ?_
      exact zw_iret (st := []) dX11_grid_26 rfl (mRef h mThrown mScT.rf (by simp only [if_pos h_10, if_neg h_18, if_true, if_false]) (by omega))
theorem mrL.y {C : Nat} {σ τ : zSt} {g : zGr} (h : mrL C σ τ 0 g) {y : Int} (hy : 0 ≤ y ∧ y ≤ 2) : σ (C + 17) y.toNat = zGy g y := by
  obtain ⟨h1, h2, h3, h4, h5, h6, h7⟩ := h
  unfold zGy
  rcases (show y = 0 ∨ y = 1 ∨ y = 2 by omega) with rfl | rfl | rfl
  · exact h4
  · exact h5
  · exact h6
theorem zGy_r {g : zGr} (hk : zGok g) (y : Int) : 0 ≤ zGy g y ∧ zGy g y ≤ 3 := by
  obtain ⟨k1, k2, k3, k4, k5, k6, k7, k8, k9, k10⟩ := hk
  unfold zGy
  (repeat' split) <;> omega
theorem mScr.L {C : Nat} {σ σ' τ τ' : zSt} {g : zGr} (hs : mScr C σ σ') (ht : mScT C τ τ') (h : mrL C σ τ 0 g) : mrL C σ' τ' 0 g := h.c (hs _ _ (by unfold mKey; omega)) (hs _ _ (by unfold mKey; omega)) (fun j hj => hs _ _ (by unfold mKey; omega)) (fun j hj => by rw [Nat.mul_zero, Nat.zero_add]; exact ht j hj)
theorem Y_gridded {G : zG} {C : Nat} {σ τ : zSt} {A : zA} {what : Int} (h : zmR C σ τ A) (hwhat : -2147483648 ≤ what ∧ what ≤ 2147483647) : zC G M_X11_gridded [.ref C, vi what] (zmS C, σ, τ) (mQ C (sp_gridded A what)) := by
  refine zC_of 0 rfl (Nat.le_of_ble_eq_true rfl) ?_
  have e15 : ∀ j, zu σ C 0 0 (C + 15) j = σ (C + 15) j := fun j => zu_a _ _ (by omega)
  have e16 : ∀ j, zu σ C 0 0 (C + 16) j = σ (C + 16) j := fun j => zu_a _ _ (by omega)
  have e17 : ∀ j, zu σ C 0 0 (C + 17) j = σ (C + 17) j := fun j => zu_a _ _ (by omega)
  refine zw_aload_n 1 rfl dX11_gridded_0 rfl ?_
  refine zw_iconst 2 rfl dX11_gridded_1 ?_
  refine zw_puti 5 rfl dX11_gridded_2 fp_X11_85 (by first | assumption | exact zm_o0 | exact zm_o _ _ _ rfl) ?_
  refine zw_aload_n 6 rfl dX11_gridded_5 rfl ?_
  refine zw_getz 9 rfl dX11_gridded_6 fl_X11_166 (by first | assumption | exact zm_o0 | exact zm_o _ _ _ rfl) ?_
  rw [zu_k _ _ (by omega), h.has]
  refine zw_if_eqB 21 12 rfl dX11_gridded_9 (by decide) (fun h_9 => ?_) (fun h_9 => ?_)
  · refine zw_aload_n 22 rfl dX11_gridded_21 rfl ?_
    refine zw_iconst 23 rfl dX11_gridded_22 ?_
    refine zw_cVi1 26 rfl dX11_gridded_23 kX11_gridded_147 (Nat.le_of_ble_eq_true rfl) (by first | assumption | exact zm_o0 | exact zm_o _ _ _ rfl) m_refused ?_
    exact zw_iret (st := []) dX11_gridded_26 rfl (mRef h mThrown mScT.rf (by simp only [if_neg h_9, if_true, if_false]) (by omega))
  · have hl := (h.made h_9).1
    refine zw_iload_n 13 rfl dX11_gridded_12 rfl ?_
    refine zw_iconst 14 rfl dX11_gridded_13 ?_
    refine zw_iconst 15 rfl dX11_gridded_14 ?_
    refine zw_cSi3 18 rfl dX11_gridded_15 kX11_gridded_106 (Nat.le_of_ble_eq_true rfl) (m_in hwhat (by omega) (by omega)) ?_
    refine zw_if_neB 27 21 rfl dX11_gridded_18 (by decide) (fun h_18 => ?_) (fun h_18 => ?_)
    · refine zw_aload_n 28 rfl dX11_gridded_27 rfl ?_
      refine zw_iload_n 29 rfl dX11_gridded_28 rfl ?_
      refine zw_if_ne 41 32 rfl dX11_gridded_29 (by decide) (by omega) (fun h_29 => ?_) (fun h_29 => ?_)
      · refine zw_iload_n 42 rfl dX11_gridded_41 rfl ?_
        refine zw_iconst 43 rfl dX11_gridded_42 ?_
        refine zw_icmp_ne 55 46 rfl dX11_gridded_43 (by decide) (by omega) (by omega) (fun h_43 => ?_) (fun h_43 => ?_)
        · refine zw_iload_n 56 rfl dX11_gridded_55 rfl ?_
          refine zw_iconst 57 rfl dX11_gridded_56 ?_
          refine zw_icmp_ne 67 60 rfl dX11_gridded_57 (by decide) (by omega) (by omega) (fun h_57 => ?_) (fun h_57 => ?_)
          · refine zw_aload_n 68 rfl dX11_gridded_67 rfl ?_
            refine zw_getr 71 rfl dX11_gridded_68 fl_X11_64 (by first | assumption | exact zm_o0 | exact zm_o _ _ _ rfl) (by first | assumption | exact zm_f _ _ rfl) ?_
            refine zw_iload_n 72 rfl dX11_gridded_71 rfl ?_
            refine zw_iconst 73 rfl dX11_gridded_72 ?_
            refine zw_isub 74 rfl dX11_gridded_73 ?_
            refine zw_iald 75 rfl dX11_gridded_74 (by first | assumption | exact zm_o0 | exact zm_o _ _ _ rfl) (by omega) (by omega) ?_
            skip
            refine zw_cVi1 78 rfl dX11_gridded_75 kX11_gridded_157 (Nat.le_of_ble_eq_true rfl) (by first | assumption | exact zm_o0 | exact zm_o _ _ _ rfl) m_good ?_
            refine zw_iret (st := []) dX11_gridded_78 rfl (mRead h mThrown mScT.rf (by rw [if_pos h_9, if_pos h_18]) ?_ rfl)
            first
            | (show _ = if what = 0 then _ else _
               rw [if_pos h_29]; exact e0)
            | (show _ = if what = 0 then _ else _
               rw [if_neg h_29, if_pos h_43]; exact e0)
            | (show _ = if what = 0 then _ else _
               rw [if_neg h_29, if_neg h_43, if_pos h_57])
            | (show _ = if what = 0 then _ else _
               rw [if_neg h_29, if_neg h_43, if_neg h_57, e17]; exact hl.y (by omega))
          · refine zw_aload_n 61 rfl dX11_gridded_60 rfl ?_
            refine zw_cVi0 64 rfl dX11_gridded_61 kX11_gridded_274 (Nat.le_of_ble_eq_true rfl) (by first | assumption | exact zm_o0 | exact zm_o _ _ _ rfl) (m_weighed hl.gd hl.1) ?_
            refine zw_goto 75 dX11_gridded_64 (by decide) ?_
            skip
            refine zw_cVi1 78 rfl dX11_gridded_75 kX11_gridded_157 (Nat.le_of_ble_eq_true rfl) (by first | assumption | exact zm_o0 | exact zm_o _ _ _ rfl) m_good ?_
            refine zw_iret (st := []) dX11_gridded_78 rfl (mRead h mThrown mScT.rf (by rw [if_pos h_9, if_pos h_18]) ?_ rfl)
            first
            | (show _ = if what = 0 then _ else _
               rw [if_pos h_29]; exact e0)
            | (show _ = if what = 0 then _ else _
               rw [if_neg h_29, if_pos h_43]; exact e0)
            | (show _ = if what = 0 then _ else _
               rw [if_neg h_29, if_neg h_43, if_pos h_57])
            | (show _ = if what = 0 then _ else _
               rw [if_neg h_29, if_neg h_43, if_neg h_57, e17]; exact hl.y (by omega))
        · refine zw_aload_n 47 rfl dX11_gridded_46 rfl ?_
          refine zw_getr 50 rfl dX11_gridded_47 fl_X11_61 (by first | assumption | exact zm_o0 | exact zm_o _ _ _ rfl) (by first | assumption | exact zm_f _ _ rfl) ?_
          refine zw_iconst 51 rfl dX11_gridded_50 ?_
          refine zw_iald 52 rfl dX11_gridded_51 (by first | assumption | exact zm_o0 | exact zm_o _ _ _ rfl) (by omega) (by omega) ?_
          rw [e16]
          have e0 := hl.2.2.1
          refine zw_goto 75 dX11_gridded_52 (by decide) ?_
          skip
          refine zw_cVi1 78 rfl dX11_gridded_75 kX11_gridded_157 (Nat.le_of_ble_eq_true rfl) (by first | assumption | exact zm_o0 | exact zm_o _ _ _ rfl) m_good ?_
          refine zw_iret (st := []) dX11_gridded_78 rfl (mRead h mThrown mScT.rf (by rw [if_pos h_9, if_pos h_18]) ?_ rfl)
          first
          | (show _ = if what = 0 then _ else _
             rw [if_pos h_29]; exact e0)
          | (show _ = if what = 0 then _ else _
             rw [if_neg h_29, if_pos h_43]; exact e0)
          | (show _ = if what = 0 then _ else _
             rw [if_neg h_29, if_neg h_43, if_pos h_57])
          | (show _ = if what = 0 then _ else _
             rw [if_neg h_29, if_neg h_43, if_neg h_57, e17]; exact hl.y (by omega))
      · refine zw_aload_n 33 rfl dX11_gridded_32 rfl ?_
        refine zw_getr 36 rfl dX11_gridded_33 fl_X11_58 (by first | assumption | exact zm_o0 | exact zm_o _ _ _ rfl) (by first | assumption | exact zm_f _ _ rfl) ?_
        refine zw_iconst 37 rfl dX11_gridded_36 ?_
        refine zw_iald 38 rfl dX11_gridded_37 (by first | assumption | exact zm_o0 | exact zm_o _ _ _ rfl) (by omega) (by omega) ?_
        rw [e15]
        have e0 := hl.2.1
        refine zw_goto 75 dX11_gridded_38 (by decide) ?_
        skip
        refine zw_cVi1 78 rfl dX11_gridded_75 kX11_gridded_157 (Nat.le_of_ble_eq_true rfl) (by first | assumption | exact zm_o0 | exact zm_o _ _ _ rfl) m_good ?_
        refine zw_iret (st := []) dX11_gridded_78 rfl (mRead h mThrown mScT.rf (by rw [if_pos h_9, if_pos h_18]) ?_ rfl)
        first
        | (show _ = if what = 0 then _ else _
           rw [if_pos h_29]; exact e0)
        | (show _ = if what = 0 then _ else _
           rw [if_neg h_29, if_pos h_43]; exact e0)
        | (show _ = if what = 0 then _ else _
           rw [if_neg h_29, if_neg h_43, if_pos h_57])
        | (show _ = if what = 0 then _ else _
           rw [if_neg h_29, if_neg h_43, if_neg h_57, e17]; exact hl.y (by omega))
    · refine zw_aload_n 22 rfl dX11_gridded_21 rfl ?_
      refine zw_iconst 23 rfl dX11_gridded_22 ?_
      refine zw_cVi1 26 rfl dX11_gridded_23 kX11_gridded_147 (Nat.le_of_ble_eq_true rfl) (by first | assumption | exact zm_o0 | exact zm_o _ _ _ rfl) m_refused ?_
      exact zw_iret (st := []) dX11_gridded_26 rfl (mRef h mThrown mScT.rf (by simp only [if_pos h_9, if_neg h_18, if_true, if_false]) (by omega))
theorem Y_node {G : zG} {C : Nat} {σ τ : zSt} {A : zA} {i j k what : Int} (h : zmR C σ τ A) (hi : -2147483648 ≤ i ∧ i ≤ 2147483647) (hj : -2147483648 ≤ j ∧ j ≤ 2147483647) (hk : -2147483648 ≤ k ∧ k ≤ 2147483647) (hwhat : -2147483648 ≤ what ∧ what ≤ 2147483647) : zC G M_X11_node [.ref C, vi i, vi j, vi k, vi what] (zmS C, σ, τ) (mQl C (sp_node A i j k what)) := by
  refine zC_of 0 rfl (Nat.le_of_ble_eq_true rfl) ?_
  refine zw_aload_n 1 rfl dX11_node_0 rfl ?_
  refine zw_iconst 2 rfl dX11_node_1 ?_
  refine zw_puti 5 rfl dX11_node_2 fp_X11_85 (by first | assumption | exact zm_o0 | exact zm_o _ _ _ rfl) ?_
  refine zw_aload_n 6 rfl dX11_node_5 rfl ?_
  refine zw_getz 9 rfl dX11_node_6 fl_X11_166 (by first | assumption | exact zm_o0 | exact zm_o _ _ _ rfl) ?_
  rw [zu_k _ _ (by omega), h.has]
  refine zw_if_eqB 22 12 rfl dX11_node_9 (by decide) (fun h_9 => ?_) (fun h_9 => ?_)
  · refine zw_aload_n 23 rfl dX11_node_22 rfl ?_
    refine zw_iconst 24 rfl dX11_node_23 ?_
    refine zw_cVi1 27 rfl dX11_node_24 kX11_node_147 (Nat.le_of_ble_eq_true rfl) (by first | assumption | exact zm_o0 | exact zm_o _ _ _ rfl) m_refused ?_
    refine zw_i2l 28 rfl dX11_node_27 (by omega) ?_
    exact zw_lret (st := []) dX11_node_28 rfl (mRefl h mThrown mScT.rf (by simp only [if_neg h_9, if_true, if_false]) (by omega))
  · have hl := (h.made h_9).1
    obtain ⟨k1, k2, k3, k4, k5, k6, k7, k8, k9, k10⟩ := id hl.1
    refine zw_iload 14 rfl dX11_node_12 rfl ?_
    refine zw_iconst 15 rfl dX11_node_14 ?_
    refine zw_iconst 16 rfl dX11_node_15 ?_
    refine zw_cSi3 19 rfl dX11_node_16 kX11_node_106 (Nat.le_of_ble_eq_true rfl) (m_in (by omega) (by omega) (by omega)) ?_
    refine zw_if_neB 29 22 rfl dX11_node_19 (by decide) (fun h_19 => ?_) (fun h_19 => ?_)
    · refine zw_iload_n 30 rfl dX11_node_29 rfl ?_
      refine zw_bipush 32 rfl dX11_node_30 rfl ?_
      refine zw_bipush 34 rfl dX11_node_32 rfl ?_
      refine zw_cSi3 37 rfl dX11_node_34 kX11_node_106 (Nat.le_of_ble_eq_true rfl) (m_in (by omega) (by omega) (by omega)) ?_
      refine zw_if_eqB 62 40 rfl dX11_node_37 (by decide) (fun h_37 => ?_) (fun h_37 => ?_)
      · refine zw_aload_n 63 rfl dX11_node_62 rfl ?_
        refine zw_lconst 64 rfl dX11_node_63 ?_
        refine zw_cVi1 67 rfl dX11_node_64 kX11_node_278 (Nat.le_of_ble_eq_true rfl) (by first | assumption | exact zm_o0 | exact zm_o _ _ _ rfl) m_says ?_
        refine zw_lret (st := []) dX11_node_67 rfl (mReadl h mThrown mScT.rf (by rw [if_pos h_9, if_pos h_19]) ?_ rfl)
        have hz := zwt_far (g := aGG A) (i := i) (j := j) (k := k) hl.1 (by omega)
        show _ = zNH (aGG A) i j k what
        unfold zNH
        rw [hz.1, hz.2]
        split <;> rfl
      · refine zw_iload_n 41 rfl dX11_node_40 rfl ?_
        refine zw_bipush 43 rfl dX11_node_41 rfl ?_
        refine zw_bipush 45 rfl dX11_node_43 rfl ?_
        refine zw_cSi3 48 rfl dX11_node_45 kX11_node_106 (Nat.le_of_ble_eq_true rfl) (m_in (by omega) (by omega) (by omega)) ?_
        refine zw_if_eqB 62 51 rfl dX11_node_48 (by decide) (fun h_48 => ?_) (fun h_48 => ?_)
        · refine zw_aload_n 63 rfl dX11_node_62 rfl ?_
          refine zw_lconst 64 rfl dX11_node_63 ?_
          refine zw_cVi1 67 rfl dX11_node_64 kX11_node_278 (Nat.le_of_ble_eq_true rfl) (by first | assumption | exact zm_o0 | exact zm_o _ _ _ rfl) m_says ?_
          refine zw_lret (st := []) dX11_node_67 rfl (mReadl h mThrown mScT.rf (by rw [if_pos h_9, if_pos h_19]) ?_ rfl)
          have hz := zwt_far (g := aGG A) (i := i) (j := j) (k := k) hl.1 (by omega)
          show _ = zNH (aGG A) i j k what
          unfold zNH
          rw [hz.1, hz.2]
          split <;> rfl
        · refine zw_iload_n 52 rfl dX11_node_51 rfl ?_
          refine zw_bipush 54 rfl dX11_node_52 rfl ?_
          refine zw_bipush 56 rfl dX11_node_54 rfl ?_
          refine zw_cSi3 59 rfl dX11_node_56 kX11_node_106 (Nat.le_of_ble_eq_true rfl) (m_in (by omega) (by omega) (by omega)) ?_
          refine zw_if_neB 68 62 rfl dX11_node_59 (by decide) (fun h_59 => ?_) (fun h_59 => ?_)
          · have hv := hl.2.2.2.2.2.2 i j k h_37 h_48 h_59
            have hnr := mNo_r h_37 h_48 h_59
            rw [Nat.mul_zero, Nat.zero_add] at hv
            refine zw_aload_n 69 rfl dX11_node_68 rfl ?_
            refine zw_iload 71 rfl dX11_node_69 rfl ?_
            refine zw_if_ne 88 74 rfl dX11_node_71 (by decide) (by omega) (fun h_71 => ?_) (fun h_71 => ?_)
            · refine zw_aload_n 89 rfl dX11_node_88 rfl ?_
              refine zw_getr 92 rfl dX11_node_89 fl_X11_49 (by first | assumption | exact zm_o0 | exact zm_o _ _ _ rfl) (by first | assumption | exact zm_f _ _ rfl) ?_
              refine zw_iload_n 93 rfl dX11_node_92 rfl ?_
              refine zw_iload_n 94 rfl dX11_node_93 rfl ?_
              refine zw_iload_n 95 rfl dX11_node_94 rfl ?_
              refine zw_cSi3 98 rfl dX11_node_95 kX11_node_216 (Nat.le_of_ble_eq_true rfl) m_nodeAt ?_
              refine zw_lald 99 rfl dX11_node_98 (by first | assumption | exact zm_o0 | exact zm_o _ _ _ rfl) (by omega) (by omega) ?_
              refine zw_cVi1 102 rfl dX11_node_99 kX11_node_278 (Nat.le_of_ble_eq_true rfl) (by first | assumption | exact zm_o0 | exact zm_o _ _ _ rfl) m_says ?_
              refine zw_lret (st := []) dX11_node_102 rfl (mReadl h mThrown mScT.rf (by rw [if_pos h_9, if_pos h_19]) ?_ rfl)
              show _ = zNH (aGG A) i j k what
              unfold zNH
              first | (rw [if_pos h_71]; exact hv.1) | (rw [if_neg h_71]; exact hv.2)
            · refine zw_aload_n 75 rfl dX11_node_74 rfl ?_
              refine zw_getr 78 rfl dX11_node_75 fl_X11_45 (by first | assumption | exact zm_o0 | exact zm_o _ _ _ rfl) (by first | assumption | exact zm_f _ _ rfl) ?_
              refine zw_iload_n 79 rfl dX11_node_78 rfl ?_
              refine zw_iload_n 80 rfl dX11_node_79 rfl ?_
              refine zw_iload_n 81 rfl dX11_node_80 rfl ?_
              refine zw_cSi3 84 rfl dX11_node_81 kX11_node_216 (Nat.le_of_ble_eq_true rfl) m_nodeAt ?_
              refine zw_lald 85 rfl dX11_node_84 (by first | assumption | exact zm_o0 | exact zm_o _ _ _ rfl) (by omega) (by omega) ?_
              refine zw_goto 99 dX11_node_85 (by decide) ?_
              refine zw_cVi1 102 rfl dX11_node_99 kX11_node_278 (Nat.le_of_ble_eq_true rfl) (by first | assumption | exact zm_o0 | exact zm_o _ _ _ rfl) m_says ?_
              refine zw_lret (st := []) dX11_node_102 rfl (mReadl h mThrown mScT.rf (by rw [if_pos h_9, if_pos h_19]) ?_ rfl)
              show _ = zNH (aGG A) i j k what
              unfold zNH
              first | (rw [if_pos h_71]; exact hv.1) | (rw [if_neg h_71]; exact hv.2)
          · refine zw_aload_n 63 rfl dX11_node_62 rfl ?_
            refine zw_lconst 64 rfl dX11_node_63 ?_
            refine zw_cVi1 67 rfl dX11_node_64 kX11_node_278 (Nat.le_of_ble_eq_true rfl) (by first | assumption | exact zm_o0 | exact zm_o _ _ _ rfl) m_says ?_
            refine zw_lret (st := []) dX11_node_67 rfl (mReadl h mThrown mScT.rf (by rw [if_pos h_9, if_pos h_19]) ?_ rfl)
            have hz := zwt_far (g := aGG A) (i := i) (j := j) (k := k) hl.1 (by omega)
            show _ = zNH (aGG A) i j k what
            unfold zNH
            rw [hz.1, hz.2]
            split <;> rfl
    · refine zw_aload_n 23 rfl dX11_node_22 rfl ?_
      refine zw_iconst 24 rfl dX11_node_23 ?_
      refine zw_cVi1 27 rfl dX11_node_24 kX11_node_147 (Nat.le_of_ble_eq_true rfl) (by first | assumption | exact zm_o0 | exact zm_o _ _ _ rfl) m_refused ?_
      refine zw_i2l 28 rfl dX11_node_27 (by omega) ?_
      exact zw_lret (st := []) dX11_node_28 rfl (mRefl h mThrown mScT.rf (by simp only [if_pos h_9, if_neg h_19, if_true, if_false]) (by omega))
theorem Y_blur {G : zG} {C : Nat} {σ τ : zSt} {A : zA} {y : Int} (h : zmR C σ τ A) (hy : -2147483648 ≤ y ∧ y ≤ 2147483647) : zC G M_X11_blur [.ref C, vi y] (zmS C, σ, τ) (mQ C (sp_blur A y)) := by
  have e17 : ∀ j, zu σ C 0 0 (C + 17) j = σ (C + 17) j := fun j => zu_a _ _ (by omega)
  refine zC_of 0 rfl (Nat.le_of_ble_eq_true rfl) ?_
  refine zw_aload_n 1 rfl dX11_blur_0 rfl ?_
  refine zw_iconst 2 rfl dX11_blur_1 ?_
  refine zw_puti 5 rfl dX11_blur_2 fp_X11_85 (by first | assumption | exact zm_o0 | exact zm_o _ _ _ rfl) ?_
  refine zw_aload_n 6 rfl dX11_blur_5 rfl ?_
  refine zw_getz 9 rfl dX11_blur_6 fl_X11_166 (by first | assumption | exact zm_o0 | exact zm_o _ _ _ rfl) ?_
  rw [zu_k _ _ (by omega), h.has]
  refine zw_if_eqB 21 12 rfl dX11_blur_9 (by decide) (fun h_9 => ?_) (fun h_9 => ?_)
  · refine zw_aload_n 22 rfl dX11_blur_21 rfl ?_
    refine zw_iconst 23 rfl dX11_blur_22 ?_
    refine zw_cVi1 26 rfl dX11_blur_23 kX11_blur_147 (Nat.le_of_ble_eq_true rfl) (by first | assumption | exact zm_o0 | exact zm_o _ _ _ rfl) m_refused ?_
    exact zw_iret (st := []) dX11_blur_26 rfl (mRef h mThrown mScT.rf (by simp only [if_neg h_9, if_true, if_false]) (by omega))
  · have hl := (h.made h_9).1
    have hpg := (h.made h_9).2
    refine zw_iload_n 13 rfl dX11_blur_12 rfl ?_
    refine zw_iconst 14 rfl dX11_blur_13 ?_
    refine zw_iconst 15 rfl dX11_blur_14 ?_
    refine zw_cSi3 18 rfl dX11_blur_15 kX11_blur_106 (Nat.le_of_ble_eq_true rfl) (m_in hy (by omega) (by omega)) ?_
    refine zw_if_neB 27 21 rfl dX11_blur_18 (by decide) (fun h_18 => ?_) (fun h_18 => ?_)
    · refine zw_aload_n 28 rfl dX11_blur_27 rfl ?_
      refine zw_getr 31 rfl dX11_blur_28 fl_X11_64 (by first | assumption | exact zm_o0 | exact zm_o _ _ _ rfl) (by first | assumption | exact zm_f _ _ rfl) ?_
      refine zw_iload_n 32 rfl dX11_blur_31 rfl ?_
      refine zw_iald 33 rfl dX11_blur_32 (by first | assumption | exact zm_o0 | exact zm_o _ _ _ rfl) (by omega) (by omega) ?_
      rw [e17, hl.y h_18]
      have hyr := zGy_r hl.1 y
      refine zw_iconst 34 rfl dX11_blur_33 ?_
      refine zw_icmp_ne 43 37 rfl dX11_blur_34 (by decide) (by omega) (by omega) (fun h_34 => ?_) (fun h_34 => ?_)
      · refine zw_aload_n 44 rfl dX11_blur_43 rfl ?_
        refine zw_iconst 45 rfl dX11_blur_44 ?_
        refine zw_iload_n 46 rfl dX11_blur_45 rfl ?_
        refine zw_cVr2 49 rfl dX11_blur_46 kX11_blur_282 (Nat.le_of_ble_eq_true rfl) (by first | assumption | exact zm_o0 | exact zm_o _ _ _ rfl) (m_blurs (g := 0) (by omega) h_18) ?_
        rintro _ _ ⟨rfl, σ3, τ3, rfl, hb⟩
        have hgd := hb.gd hl.gd hl.1 h_18 (by omega)
        have hok := zGb_ok hl.1 h_18 (by omega)
        refine zw_aload_n 50 rfl dX11_blur_49 rfl ?_
        refine zw_aload_n 51 rfl dX11_blur_50 rfl ?_
        refine zw_cVi0 54 rfl dX11_blur_51 kX11_blur_274 (Nat.le_of_ble_eq_true rfl) (by first | assumption | exact zm_o0 | exact zm_o _ _ _ rfl) (m_weighed hgd hok) ?_
        refine zw_cVi1 57 rfl dX11_blur_54 kX11_blur_157 (Nat.le_of_ble_eq_true rfl) (by first | assumption | exact zm_o0 | exact zm_o _ _ _ rfl) m_good ?_
        refine zw_iret (st := []) dX11_blur_57 rfl ?_
        unfold sp_blur
        rw [aAns, if_pos (by rw [if_pos h_9, if_pos h_18, if_pos (by omega)])]
        refine ⟨rfl, _, _, rfl, h.grid ?_ ?_ ?_ ?_⟩
        · intro b j q1 q2 q3
          rw [hb.1, zu_ne _ _ (by omega), zu_ne _ _ (by unfold mKey at q1; omega)]
        · rw [hb.1, zu_ne _ _ (by omega), zu_k _ _ (by omega), h.has]
          exact (zb_t h_9).symm
        · have s15 : σ3 (C + 15) 0 = (aGG A).2.2.1 := by rw [hb.1, zu_ne _ _ (by omega), zu_a _ _ (by omega)]; exact hl.2.1
          have s16 : σ3 (C + 16) 0 = (aGG A).2.2.2.1 := by rw [hb.1, zu_ne _ _ (by omega), zu_a _ _ (by omega)]; exact hl.2.2.1
          have s17 : ∀ w : Int, 0 ≤ w ∧ w ≤ 2 → σ3 (C + 17) w.toNat = zGy (zGb (aGG A) y) w := by
            intro w hw
            have ew := hl.y hw
            have ey := hl.y h_18
            rw [hb.1]
            by_cases q : w = y
            · subst q
              rw [show 3 * 0 + w.toNat = w.toNat by omega, zu_eq, e17, ew]
              unfold zGy zGb
              rcases (show w = 0 ∨ w = 1 ∨ w = 2 by omega) with rfl | rfl | rfl <;> rfl
            · rw [zu_k _ _ (by omega), e17, ew]
              unfold zGy zGb
              rcases (show w = 0 ∨ w = 1 ∨ w = 2 by omega) with rfl | rfl | rfl
              · simp only [if_pos]; rw [if_neg (by omega)]
              · simp only [if_pos, if_neg (show ¬ (1 : Int) = 0 by omega)]; rw [if_neg (by omega)]
              · simp only [if_neg (show ¬ (2 : Int) = 0 by omega), if_neg (show ¬ (2 : Int) = 1 by omega)]; rw [if_neg (by omega)]
          exact hgd.l hok s15 s16 (s17 0 (by omega)) (s17 1 (by omega)) (s17 2 (by omega))
        · refine hpg.mv (fun j _ => ?_)
          rw [hb.1, zu_ne _ _ (by omega), zu_a _ _ (by omega)]
      · refine zw_aload_n 38 rfl dX11_blur_37 rfl ?_
        refine zw_iconst 39 rfl dX11_blur_38 ?_
        refine zw_cVi1 42 rfl dX11_blur_39 kX11_blur_147 (Nat.le_of_ble_eq_true rfl) (by first | assumption | exact zm_o0 | exact zm_o _ _ _ rfl) m_refused ?_
        exact zw_iret (st := []) dX11_blur_42 rfl (mRef h mThrown mScT.rf (by rw [if_pos h_9, if_pos h_18, if_neg (by omega)]) (by omega))
    · refine zw_aload_n 22 rfl dX11_blur_21 rfl ?_
      refine zw_iconst 23 rfl dX11_blur_22 ?_
      refine zw_cVi1 26 rfl dX11_blur_23 kX11_blur_147 (Nat.le_of_ble_eq_true rfl) (by first | assumption | exact zm_o0 | exact zm_o _ _ _ rfl) m_refused ?_
      exact zw_iret (st := []) dX11_blur_26 rfl (mRef h mThrown mScT.rf (by simp only [if_pos h_9, if_neg h_18, if_true, if_false]) (by omega))
