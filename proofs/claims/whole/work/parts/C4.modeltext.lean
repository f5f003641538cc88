theorem Y_text {G : zG} {C : Nat} {σ τ : zSt} {A : zA} {n : Int} (h : zmR C σ τ A) (hn : -2147483648 ≤ n ∧ n ≤ 2147483647) : zC G M_X11_text [.ref C, vi n] (zmS C, σ, τ) (mQ C (sp_text A n)) := by
  have h4 : σ C 4 = ((aT A).length : Int) := h.2.2.1.1
  have hL : (aT A).length ≤ 700 := h.2.2.1.2.1
  have hB := h.2.2.1.2.2
  refine zC_of 0 rfl (Nat.le_of_ble_eq_true rfl) ?_
  by_cases hc : 0 ≤ n ∧ n ≤ (aT A).length
  · obtain ⟨m, hm⟩ : ∃ m : Nat, n = m := ⟨n.toNat, by omega⟩
    obtain ⟨σ1, hσ1⟩ : ∃ σ1, σ1 = zu (zu σ C 0 0) C 4 0 := ⟨_, rfl⟩
    have o1 : ∀ b j, ¬ (b = C ∧ (j = 0 ∨ j = 4)) → σ1 b j = σ b j := fun b j hb => by rw [hσ1, zu_ne _ _ (by omega), zu_ne _ _ (by omega)]
    have t1 : σ1 (C + 1) = σ (C + 1) := funext fun j => o1 _ _ (by omega)
    have hr : ∀ i, i < m → 0 ≤ σ1 (C + 1) i ∧ σ1 (C + 1) i ≤ 255 := fun i hi => by rw [t1, (hB i (by omega)).1]; exact (hB i (by omega)).2
    have hn7 : m ≤ 700 := by omega
    obtain ⟨T, hT⟩ : ∃ T, T = aTxR A n := ⟨_, rfl⟩
    obtain ⟨r0, hr0⟩ : ∃ r0 : zRd, r0 = (0, 0, [], fun _ => (0, 0, fun _ _ => 0)) := ⟨_, rfl⟩
    have hT0 : mRn (σ1 (C + 1)) m T r0 := by
      refine ⟨701, 0, Or.inr (by rw [hr0]; show m - 0 + 1 ≤ 701; omega), ?_⟩
      rw [hT, aTxR, hr0, show n.toNat = m by omega]
      exact zRun_c (fun i hi => by rw [t1]; exact (hB i (by omega)).1) _ _ _ (Nat.zero_le _)
    -- the end of a text with a fault
    have bad : ∀ σs : zSt, mFlt C σ1 m T σs → zW G M_X11_text (mQ C (sp_text A n)) 96 [some (.ref C), some (vi n)] [] (zmS C, σs, τ) := by
      intro σs hf
      obtain ⟨fb, f7, f8, f9⟩ := hf
      have fin : zmR C (zu (zu σs C 1 4) C 2 (σs C 8)) τ (A.1, A.2.1, [], (4, T.2.1, T.1), A.2.2.2.2) := by
        obtain ⟨a1, a2, a3, a4, a5, a6, a7⟩ := h
        have f2 : ∀ b j, ¬ (b = C ∧ (j = 1 ∨ j = 2 ∨ (5 ≤ j ∧ j ≤ 11) ∨ j = 19 ∨ j = 0 ∨ j = 4)) → ¬ (C + 2 ≤ b ∧ b ≤ C + 6) → zu (zu σs C 1 4) C 2 (σs C 8) b j = σ b j := fun b j q1 q2 => by rw [zu_ne _ _ (by omega), zu_ne _ _ (by omega), fb.1 b j (by omega) q2, o1 b j (by omega)]
        refine ⟨a1.mv (fun j _ => f2 _ _ (by omega) (by omega)), a2.c (f2 _ _ (by omega) (by omega)) (fun j => f2 _ _ (by omega) (by omega)), ⟨?_, by show (0 : Nat) ≤ 700; omega, fun i hi => absurd hi (by show ¬ i < 0; omega)⟩, ⟨by rw [zu_k _ _ (by omega), zu_eq], by rw [zu_eq]; exact f8, by rw [zu_k _ _ (by omega), zu_k _ _ (by omega)]; exact f7⟩, a5.c (f2 _ _ (by omega) (by omega)) (fun j => f2 _ _ (by omega) (by omega)) (fun j => f2 _ _ (by omega) (by omega)), ?_, a7.c (f2 _ _ (by omega) (by omega)) (fun j => f2 _ _ (by omega) (by omega))⟩
        · rw [zu_k _ _ (by omega), zu_k _ _ (by omega), fb.1 _ _ (by omega) (by omega), hσ1, zu_eq]; rfl
        · show mrG C _ τ (aG A)
          generalize aG A = g at a6
          cases g with
          | none => exact (f2 C 32 (by omega) (by omega)).trans a6
          | some g => exact ⟨(f2 C 32 (by omega) (by omega)).trans a6.1, a6.2.1.c (f2 _ _ (by omega) (by omega)) (f2 _ _ (by omega) (by omega)) (fun j hj => f2 _ _ (by omega) (by omega)) (fun j hj => ⟨rfl, rfl⟩), a6.2.2.mv (fun j _ => f2 _ _ (by omega) (by omega))⟩
      refine zw_aload_n 97 rfl dX11_text_96 rfl ?_
      refine zw_geti 100 rfl dX11_text_97 fl_X11_94 (by first | assumption | exact zm_o0 | exact zm_o _ _ _ rfl) ?_
      refine zw_if_le 118 103 rfl dX11_text_100 (by decide) (by omega) (fun h_100 => ?_) (fun h_100 => ?_)
      · exfalso; omega
      · refine zw_aload_n 104 rfl dX11_text_103 rfl ?_
        refine zw_iconst 105 rfl dX11_text_104 ?_
        refine zw_puti 108 rfl dX11_text_105 fp_X11_88 (by first | assumption | exact zm_o0 | exact zm_o _ _ _ rfl) ?_
        refine zw_aload_n 109 rfl dX11_text_108 rfl ?_
        refine zw_aload_n 110 rfl dX11_text_109 rfl ?_
        refine zw_geti 113 rfl dX11_text_110 fl_X11_100 (by first | assumption | exact zm_o0 | exact zm_o _ _ _ rfl) ?_
        rw [zu_k _ _ (by omega)]
        refine zw_puti 116 rfl dX11_text_113 fp_X11_9 (by first | assumption | exact zm_o0 | exact zm_o _ _ _ rfl) ?_
        refine zw_iconst 117 rfl dX11_text_116 ?_
        refine zw_iret (st := []) dX11_text_117 rfl ?_
        unfold sp_text
        rw [if_pos hc, ← hT, if_neg (by omega)]
        exact ⟨rfl, _, _, rfl, fin⟩
    have bad76 : ∀ σs : zSt, mFlt C σ1 m T σs → zW G M_X11_text (mQ C (sp_text A n)) 56 [some (.ref C), some (vi n)] [] (zmS C, σs, τ) := by
      intro σs hf
      have f7 := hf.2.1
      have f9 := hf.2.2.2
      refine zw_aload_n 57 rfl dX11_text_56 rfl ?_
      refine zw_bipush 59 rfl dX11_text_57 rfl ?_
      refine zw_cVi1 62 rfl dX11_text_59 kX11_text_144 (Nat.le_of_ble_eq_true rfl) (by first | assumption | exact zm_o0 | exact zm_o _ _ _ rfl) (m_isSignF (by omega)) ?_
      refine zw_if_eq 76 65 rfl dX11_text_62 (by decide) (by omega) (fun h_62 => ?_) (fun h_62 => ?_)
      · refine zw_aload_n 77 rfl dX11_text_76 rfl ?_
        refine zw_geti 80 rfl dX11_text_77 fl_X11_94 (by first | assumption | exact zm_o0 | exact zm_o _ _ _ rfl) ?_
        refine zw_if_ne 96 83 rfl dX11_text_80 (by decide) (by omega) (fun h_80 => ?_) (fun h_80 => ?_)
        · exact bad σs hf
        · exfalso; omega
      · exfalso; omega
    -- the end of a good text
    have good : ∀ (rr : zRd) (σs : zSt), rr.1 = 4 → mRdr C σ1 m rr σs → mRn (σ1 (C + 1)) m T rr → σs C 19 = rr.2.2.1.length → (zTk (σ1 (C + 1)) m rr.2.1).2.2.1 = 0 → zW G M_X11_text (mQ C (sp_text A n)) 96 [some (.ref C), some (vi n)] [] (zmS C, σs, τ) := by
      intro rr σs g1 g2 g3 g4 g5
      obtain ⟨xb, x7, xtk, xpn, xl4, xnm, xpc⟩ := id g2
      have hz : zStep (σ1 (C + 1)) rr (zTk (σ1 (C + 1)) m rr.2.1) = (0, (5, (zTk (σ1 (C + 1)) m rr.2.1).2.1, rr.2.2.1, rr.2.2.2)) := by
        unfold zStep
        rw [if_neg (by omega), if_neg (by omega), if_pos g1, if_neg (by omega), if_neg (by omega), if_pos g5]
      have hT3 := g3.go (by omega) xpn (by rw [hz])
      rw [hz] at hT3
      obtain ⟨w1, w2⟩ := hT3.fin rfl
      have hN : T.2.2.2.2.1 = rr.2.2.1 := by rw [w2]
      refine zw_aload_n 97 rfl dX11_text_96 rfl ?_
      refine zw_geti 100 rfl dX11_text_97 fl_X11_94 (by first | assumption | exact zm_o0 | exact zm_o _ _ _ rfl) ?_
      refine zw_if_le 118 103 rfl dX11_text_100 (by decide) (by omega) (fun h_100 => ?_) (fun h_100 => ?_)
      · refine zw_aload_n 119 rfl dX11_text_118 rfl ?_
        refine zw_cVr0 122 rfl dX11_text_119 kX11_text_154 (Nat.le_of_ble_eq_true rfl) (by first | assumption | exact zm_o0 | exact zm_o _ _ _ rfl) (m_holds (t := σ1 (C + 1)) (n := m) (len := rr.2.2.1.length) (r := T.2.2) xb.t (by rw [hN]; exact xnm) (fun p hp => by rw [w2]; exact xpc p (by rw [hN] at hp; exact hp) (fun u => by omega)) (by rw [hN]) xl4 g4 hn7) ?_
        rintro _ _ ⟨rfl, σ3, rfl, hh⟩
        obtain ⟨y1, y2, y3, y4, y5⟩ := hh
        have e19 : σ3 C 19 = rr.2.2.1.length := by rw [y1 _ _ (by omega) (by omega)]; exact g4
        have fin : zmR C (zu (zu σ3 C 1 0) C 2 (-1)) τ (aTk T.2.2, [], [], (0, -1, 0), T.2.2.2.2.1, none, aI A) := by
          obtain ⟨a1, a2, a3, a4, a5, a6, a7⟩ := h
          have f1 : ∀ b j, ¬ (b = C ∧ (j = 1 ∨ j = 2)) → zu (zu σ3 C 1 0) C 2 (-1) b j = σ3 b j := fun b j q => by rw [zu_ne _ _ (by omega), zu_ne _ _ (by omega)]
          have f2 : ∀ b j, ¬ (b = C ∧ (j = 1 ∨ j = 2 ∨ (5 ≤ j ∧ j ≤ 11) ∨ j = 19 ∨ j = 0 ∨ j = 4 ∨ j = 20 ∨ j = 23 ∨ j = 32)) → ¬ (C + 2 ≤ b ∧ b ≤ C + 9) → zu (zu σ3 C 1 0) C 2 (-1) b j = σ b j := fun b j q1 q2 => by rw [f1 b j (by omega), y1 b j (by omega) (by omega), xb.1 b j (by omega) (by omega), o1 b j (by omega)]
          refine ⟨y2.mv (fun j _ => f1 _ _ (by omega)), ⟨by rw [f1 _ _ (by omega), y4]; rfl, by show (0 : Nat) ≤ 10; omega, fun i hi => absurd hi (by show ¬ i < 0; omega)⟩, ⟨?_, by show (0 : Nat) ≤ 700; omega, fun i hi => absurd hi (by show ¬ i < 0; omega)⟩, ⟨by rw [zu_k _ _ (by omega), zu_eq], by rw [zu_eq], ?_⟩, y3.c (f1 _ _ (by omega)) (fun j => f1 _ _ (by omega)) (fun j => f1 _ _ (by omega)), ?_, a7.c (f2 _ _ (by omega) (by omega)) (fun j => f2 _ _ (by omega) (by omega))⟩
          · rw [f1 _ _ (by omega), y1 _ _ (by omega) (by omega), xb.1 _ _ (by omega) (by omega), hσ1, zu_eq]; rfl
          · rw [f1 _ _ (by omega), y1 _ _ (by omega) (by omega), x7]
          · show _ = _; rw [f1 _ _ (by omega), y5]
        refine zw_aload_n 123 rfl dX11_text_122 rfl ?_
        refine zw_aload_n 124 rfl dX11_text_123 rfl ?_
        refine zw_geti 127 rfl dX11_text_124 fl_X11_130 (by first | assumption | exact zm_o0 | exact zm_o _ _ _ rfl) ?_
        rw [e19]
        refine zw_cVi1 130 rfl dX11_text_127 kX11_text_157 (Nat.le_of_ble_eq_true rfl) (by first | assumption | exact zm_o0 | exact zm_o _ _ _ rfl) m_good ?_
        refine zw_iret (st := []) dX11_text_130 rfl ?_
        unfold sp_text
        rw [if_pos hc, ← hT, if_pos w1]
        exact ⟨by rw [hN], _, _, rfl, fin⟩
      · exfalso; omega
    -- picture by picture
    have loop : ∀ (f : Nat) (rr : zRd) (σs : zSt), m - rr.2.1 ≤ f → rr.1 = 4 → ¬ (zTk (σ1 (C + 1)) m rr.2.1).2.2.1 = 2 → mRdr C σ1 m rr σs → mRn (σ1 (C + 1)) m T rr → σs C 19 = rr.2.2.1.length → zW G M_X11_text (mQ C (sp_text A n)) 56 [some (.ref C), some (vi n)] [] (zmS C, σs, τ) := by
      intro f
      induction f with
      | zero =>
        intro rr σs hf g1 g2 g3 g4 g5
        obtain ⟨xb, x7, xtk, xpn, xl4, xnm, xpc⟩ := id g3
        have okk := zTk_ok (σ1 (C + 1)) (n := m) (p := rr.2.1) xpn
        have pr := zTk_prog (t := σ1 (C + 1)) xpn
        have hk0 : (zTk (σ1 (C + 1)) m rr.2.1).2.2.1 = 0 := by omega
        have hx9 := xtk.2.2
        refine zw_aload_n 57 rfl dX11_text_56 rfl ?_
        refine zw_bipush 59 rfl dX11_text_57 rfl ?_
        refine zw_cVi1 62 rfl dX11_text_59 kX11_text_144 (Nat.le_of_ble_eq_true rfl) (by first | assumption | exact zm_o0 | exact zm_o _ _ _ rfl) (m_isSign x7 xtk (Or.inr rfl)) ?_
        refine zw_if_eqB 76 65 rfl dX11_text_62 (by decide) (fun h_62 => ?_) (fun h_62 => ?_)
        · refine zw_aload_n 77 rfl dX11_text_76 rfl ?_
          refine zw_geti 80 rfl dX11_text_77 fl_X11_94 (by first | assumption | exact zm_o0 | exact zm_o _ _ _ rfl) ?_
          rw [x7]
          refine zw_if_ne 96 83 rfl dX11_text_80 (by decide) (by omega) (fun h_80 => ?_) (fun h_80 => ?_)
          · exact good rr σs g1 g3 g4 g5 hk0
          · refine zw_aload_n 84 rfl dX11_text_83 rfl ?_
            refine zw_geti 87 rfl dX11_text_84 fl_X11_113 (by first | assumption | exact zm_o0 | exact zm_o _ _ _ rfl) ?_
            refine zw_iconst 88 rfl dX11_text_87 ?_
            refine zw_icmp_eq 96 91 rfl dX11_text_88 (by decide) (by omega) (by omega) (fun h_88 => ?_) (fun h_88 => ?_)
            · exact good rr σs g1 g3 g4 g5 hk0
            · exfalso; omega
        · exfalso; rw [if_neg (by omega)] at h_62; omega
      | succ f ih =>
        intro rr σs hf g1 g2 g3 g4 g5
        obtain ⟨xb, x7, xtk, xpn, xl4, xnm, xpc⟩ := id g3
        have okk := zTk_ok (σ1 (C + 1)) (n := m) (p := rr.2.1) xpn
        have pr := zTk_prog (t := σ1 (C + 1)) xpn
        have hx9 := xtk.2.2
        have more : (zTk (σ1 (C + 1)) m rr.2.1).2.2.1 = 3 → zW G M_X11_text (mQ C (sp_text A n)) 65 [some (.ref C), some (vi n)] [] (zmS C, σs, τ) := by
          intro hk3
          have hz : zStep (σ1 (C + 1)) rr (zTk (σ1 (C + 1)) m rr.2.1) = (0, (0, (zTk (σ1 (C + 1)) m rr.2.1).2.1, rr.2.2.1, rr.2.2.2)) := by
            unfold zStep
            rw [if_neg (by omega), if_neg (by omega), if_pos g1, if_neg (by omega), if_pos hk3]
          have hT3 := g4.go (by omega) xpn (by rw [hz])
          rw [hz] at hT3
          refine zw_aload_n 66 rfl dX11_text_65 rfl ?_
          refine zw_cVr0 69 rfl dX11_text_66 kX11_text_127 (Nat.le_of_ble_eq_true rfl) (by first | assumption | exact zm_o0 | exact zm_o _ _ _ rfl) (m_goR (r := (0, (zTk (σ1 (C + 1)) m rr.2.1).2.1, rr.2.2.1, rr.2.2.2)) xb x7 xtk.2.1 okk.1.2.2 xl4 xnm (fun q q1 q2 => xpc q q1 (fun u => by omega)) hn7 hr) ?_
          rintro _ _ ⟨rfl, σ4, rfl, m4, d4⟩
          refine zw_aload_n 70 rfl dX11_text_69 rfl ?_
          refine zw_cVr0 73 rfl dX11_text_70 kX11_text_151 (Nat.le_of_ble_eq_true rfl) (by first | assumption | exact zm_o0 | exact zm_o _ _ _ rfl) (m_readPicture (r := (0, (zTk (σ1 (C + 1)) m rr.2.1).2.1, rr.2.2.1, rr.2.2.2)) d4 hT3 rfl (by rw [m4]; exact g5) hn7 hr) ?_
          rintro _ _ ⟨rfl, σ5, rfl, hor⟩
          refine zw_goto 56 dX11_text_73 (by decide) ?_
          rcases hor with hf5 | ⟨r5, a1, a2, a3, a4, a5, a6⟩
          · exact bad76 σ5 hf5
          · have a3 : (zTk (σ1 (C + 1)) m rr.2.1).2.1 < r5.2.1 := a3
            exact ih r5 σ5 (by omega) a1 a2 a4 a5 a6
        have wrong : ¬ (zTk (σ1 (C + 1)) m rr.2.1).2.2.1 = 3 → ¬ (zTk (σ1 (C + 1)) m rr.2.1).2.2.1 = 0 → mFlt C σ1 m T (zu (zu σs C 7 1) C 8 (σs C 10)) := by
          intro q1 q2
          refine mFlt.of g3 g4 (by omega) ?_ (by omega)
          unfold zStep
          rw [if_neg (by omega), if_neg (by omega), if_pos g1, if_neg g2, if_neg q1, if_neg q2]
        refine zw_aload_n 57 rfl dX11_text_56 rfl ?_
        refine zw_bipush 59 rfl dX11_text_57 rfl ?_
        refine zw_cVi1 62 rfl dX11_text_59 kX11_text_144 (Nat.le_of_ble_eq_true rfl) (by first | assumption | exact zm_o0 | exact zm_o _ _ _ rfl) (m_isSign x7 xtk (Or.inr rfl)) ?_
        refine zw_if_eqB 76 65 rfl dX11_text_62 (by decide) (fun h_62 => ?_) (fun h_62 => ?_)
        · rw [if_neg (show ¬ (59 : Int) = 47 by omega)] at h_62
          refine zw_aload_n 77 rfl dX11_text_76 rfl ?_
          refine zw_geti 80 rfl dX11_text_77 fl_X11_94 (by first | assumption | exact zm_o0 | exact zm_o _ _ _ rfl) ?_
          rw [x7]
          refine zw_if_ne 96 83 rfl dX11_text_80 (by decide) (by omega) (fun h_80 => ?_) (fun h_80 => ?_)
          · first
            | (exact absurd rfl h_80)
            | (exact good rr σs g1 g3 g4 g5 (by omega))
            | (exact bad _ (wrong h_62 (by omega)))
          · refine zw_aload_n 84 rfl dX11_text_83 rfl ?_
            refine zw_geti 87 rfl dX11_text_84 fl_X11_113 (by first | assumption | exact zm_o0 | exact zm_o _ _ _ rfl) ?_
            refine zw_iconst 88 rfl dX11_text_87 ?_
            refine zw_icmp_eq 96 91 rfl dX11_text_88 (by decide) (by omega) (by omega) (fun h_88 => ?_) (fun h_88 => ?_)
            · first
              | (exact absurd rfl h_80)
              | (exact good rr σs g1 g3 g4 g5 (by omega))
              | (exact bad _ (wrong h_62 (by omega)))
            · refine zw_aload_n 92 rfl dX11_text_91 rfl ?_
              refine zw_iconst 93 rfl dX11_text_92 ?_
              refine zw_cVv1 96 rfl dX11_text_93 kX11_text_123 (Nat.le_of_ble_eq_true rfl) (by first | assumption | exact zm_o0 | exact zm_o _ _ _ rfl) (m_flaw0 x7) ?_
              first
              | (exact absurd rfl h_80)
              | (exact good rr σs g1 g3 g4 g5 (by omega))
              | (exact bad _ (wrong h_62 (by omega)))
        · rw [if_neg (show ¬ (59 : Int) = 47 by omega)] at h_62
          exact more h_62
    obtain ⟨σ2, hσ2⟩ : ∃ σ2, σ2 = zu (zu (zu (zu (zu (zu σ C 0 0) C 5 n) C 4 0) C 6 0) C 7 0) C 19 0 := ⟨_, rfl⟩
    have b2 : mRb C σ1 m σ2 := by
      refine ⟨fun b j q1 q2 => ?_, by rw [hσ2, zu_k _ _ (by omega), zu_k _ _ (by omega), zu_k _ _ (by omega), zu_k _ _ (by omega), zu_eq]; exact hm⟩
      rw [hσ2, hσ1, zu_ne _ _ (by omega), zu_ne _ _ (by omega), zu_ne _ _ (by omega)]
      by_cases e : b = C ∧ j = 4
      · rw [e.1, e.2, zu_eq, zu_eq]
      · rw [zu_ne _ _ e, zu_ne _ _ (by omega), zu_ne _ _ e]
    have d7 : σ2 C 7 = 0 := by rw [hσ2, zu_k _ _ (by omega), zu_eq]
    have d6 : σ2 C 6 = ((r0.2.1 : Nat) : Int) := by rw [hσ2, zu_k _ _ (by omega), zu_k _ _ (by omega), zu_eq, hr0]; rfl
    have d19 : σ2 C 19 = 0 := by rw [hσ2, zu_eq]
    have r0l : r0.2.2.1.length = 0 := by rw [hr0]; rfl
    refine zw_aload_n 1 rfl dX11_text_0 rfl ?_
    refine zw_iconst 2 rfl dX11_text_1 ?_
    refine zw_puti 5 rfl dX11_text_2 fp_X11_85 (by first | assumption | exact zm_o0 | exact zm_o _ _ _ rfl) ?_
    refine zw_iload_n 6 rfl dX11_text_5 rfl ?_
    refine zw_iconst 7 rfl dX11_text_6 ?_
    refine zw_aload_n 8 rfl dX11_text_7 rfl ?_
    refine zw_geti 11 rfl dX11_text_8 fl_X11_91 (by first | assumption | exact zm_o0 | exact zm_o _ _ _ rfl) ?_
    rw [zu_k _ _ (by omega), h4]
    refine zw_cSi3 14 rfl dX11_text_11 kX11_text_106 (Nat.le_of_ble_eq_true rfl) (m_in (by omega) (by omega) (by omega)) ?_
    refine zw_if_neB 23 17 rfl dX11_text_14 (by decide) (fun h_14 => ?_) (fun h_14 => ?_)
    · refine zw_aload_n 24 rfl dX11_text_23 rfl ?_
      refine zw_iload_n 25 rfl dX11_text_24 rfl ?_
      refine zw_puti 28 rfl dX11_text_25 fp_X11_103 (by first | assumption | exact zm_o0 | exact zm_o _ _ _ rfl) ?_
      refine zw_aload_n 29 rfl dX11_text_28 rfl ?_
      refine zw_iconst 30 rfl dX11_text_29 ?_
      refine zw_puti 33 rfl dX11_text_30 fp_X11_91 (by first | assumption | exact zm_o0 | exact zm_o _ _ _ rfl) ?_
      refine zw_aload_n 34 rfl dX11_text_33 rfl ?_
      refine zw_iconst 35 rfl dX11_text_34 ?_
      refine zw_puti 38 rfl dX11_text_35 fp_X11_110 (by first | assumption | exact zm_o0 | exact zm_o _ _ _ rfl) ?_
      refine zw_aload_n 39 rfl dX11_text_38 rfl ?_
      refine zw_iconst 40 rfl dX11_text_39 ?_
      refine zw_puti 43 rfl dX11_text_40 fp_X11_94 (by first | assumption | exact zm_o0 | exact zm_o _ _ _ rfl) ?_
      refine zw_aload_n 44 rfl dX11_text_43 rfl ?_
      refine zw_iconst 45 rfl dX11_text_44 ?_
      refine zw_puti 48 rfl dX11_text_45 fp_X11_130 (by first | assumption | exact zm_o0 | exact zm_o _ _ _ rfl) ?_
      rw [← hσ2]
      refine zw_aload_n 49 rfl dX11_text_48 rfl ?_
      refine zw_cVr0 52 rfl dX11_text_49 kX11_text_127 (Nat.le_of_ble_eq_true rfl) (by first | assumption | exact zm_o0 | exact zm_o _ _ _ rfl) (m_goR (r := r0) b2 d7 d6 (by rw [hr0]; exact Nat.zero_le _) (by omega) (fun p hp => absurd hp (by omega)) (fun p hp => absurd hp (by omega)) hn7 hr) ?_
      rintro _ _ ⟨rfl, σ4, rfl, m4, d4⟩
      refine zw_aload_n 53 rfl dX11_text_52 rfl ?_
      refine zw_cVr0 56 rfl dX11_text_53 kX11_text_151 (Nat.le_of_ble_eq_true rfl) (by first | assumption | exact zm_o0 | exact zm_o _ _ _ rfl) (m_readPicture (r := r0) d4 hT0 (by rw [hr0]) (by rw [m4, d19, r0l]; rfl) hn7 hr) ?_
      rintro _ _ ⟨rfl, σ5, rfl, hor⟩
      rcases hor with hf5 | ⟨r5, a1, a2, a3, a4, a5, a6⟩
      · exact bad76 σ5 hf5
      · exact loop (m - r5.2.1) r5 σ5 (Nat.le_refl _) a1 a2 a4 a5 a6
    · exact absurd hc h_14
  refine zw_aload_n 1 rfl dX11_text_0 rfl ?_
  refine zw_iconst 2 rfl dX11_text_1 ?_
  refine zw_puti 5 rfl dX11_text_2 fp_X11_85 (by first | assumption | exact zm_o0 | exact zm_o _ _ _ rfl) ?_
  refine zw_iload_n 6 rfl dX11_text_5 rfl ?_
  refine zw_iconst 7 rfl dX11_text_6 ?_
  refine zw_aload_n 8 rfl dX11_text_7 rfl ?_
  refine zw_geti 11 rfl dX11_text_8 fl_X11_91 (by first | assumption | exact zm_o0 | exact zm_o _ _ _ rfl) ?_
  rw [zu_k _ _ (by omega), h4]
  refine zw_cSi3 14 rfl dX11_text_11 kX11_text_106 (Nat.le_of_ble_eq_true rfl) (m_in (by omega) (by omega) (by omega)) ?_
  refine zw_if_neB 23 17 rfl dX11_text_14 (by decide) (fun h_14 => ?_) (fun h_14 => ?_)
  · exact absurd h_14 hc
  · refine zw_aload_n 18 rfl dX11_text_17 rfl ?_
    refine zw_iconst 19 rfl dX11_text_18 ?_
    refine zw_cVi1 22 rfl dX11_text_19 kX11_text_147 (Nat.le_of_ble_eq_true rfl) (by first | assumption | exact zm_o0 | exact zm_o _ _ _ rfl) m_refused ?_
    refine zw_iret (st := []) dX11_text_22 rfl ?_
    unfold sp_text
    rw [if_neg hc]
    exact ⟨rfl, _, _, rfl, h.set ((mThrown.u (by unfold mKey; omega)).u (by unfold mKey; omega)) mScT.rf (by rw [zu_k _ _ (by omega), zu_eq]) (zu_eq _ _ _ _)⟩
