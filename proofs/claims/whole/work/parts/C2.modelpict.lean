theorem m_goR {G : zG} {C : Nat} {σ τ : zSt} {σ1 : zSt} {n : Nat} {r : zRd} (hb : mRb C σ1 n σ) (h7 : σ C 7 = 0) (h6 : σ C 6 = r.2.1) (hp : r.2.1 ≤ n) (hl : r.2.2.1.length ≤ 4) (hnm : mRnm C (σ1 (C + 1)) n r.2.2.1 σ) (hpc : ∀ p, p < r.2.2.1.length → (r.1 = 2 → p + 1 < r.2.2.1.length) → mRpc C σ p (r.2.2.2 p)) (hn : n ≤ 700) (hr : ∀ i, i < n → 0 ≤ σ1 (C + 1) i ∧ σ1 (C + 1) i ≤ 255) : zC G M_X11_goOn [.ref C] (zmS C, σ, τ) (fun v w => v = none ∧ ∃ σ' : zSt, w = (zmS C, σ', τ) ∧ σ' C 19 = σ C 19 ∧ mRdr C σ1 n r σ') := by
  refine (m_goOn (p := r.2.1) hb.2 h6 h7 hp hn (by rw [hb.t]; exact hr)).mono (fun v w hv => ?_)
  obtain ⟨e, σ', hw, g1, g2⟩ := hv
  rw [hb.t] at g2
  refine ⟨e, σ', hw, g1 _ _ (by omega), ⟨fun b j h1 h2 => by rw [g1 b j (by omega)]; exact hb.1 b j h1 h2, by rw [g1 _ _ (by omega)]; exact hb.2⟩, by rw [g1 _ _ (by omega)]; exact h7, g2, hp, hl, hnm.c (fun p _ => ⟨g1 _ _ (by omega), g1 _ _ (by omega)⟩), fun p q1 q2 => (hpc p q1 q2).c (g1 _ _ (by omega)) (g1 _ _ (by omega)) (fun j _ _ => g1 _ _ (by omega))⟩
theorem mRdr.m {C n : Nat} {σ1 σ : zSt} {r : zRd} {v : Int} (h : mRdr C σ1 n r σ) : mRdr C σ1 n r (zu σ C 19 v) := by
  obtain ⟨hb, h7, ⟨k10, k6, kk⟩, hpn, hl4, hnm, hpc⟩ := h
  refine ⟨hb.u (Or.inl (by omega)), by rw [zu_k _ _ (by omega)]; exact h7, ⟨by rw [zu_k _ _ (by omega)]; exact k10, by rw [zu_k _ _ (by omega)]; exact k6, ?_⟩, hpn, hl4, hnm.c (fun p _ => ⟨zu_a _ _ (by omega), zu_a _ _ (by omega)⟩), fun p q1 q2 => (hpc p q1 q2).c (zu_a _ _ (by omega)) (zu_a _ _ (by omega)) (fun j _ _ => zu_a _ _ (by omega))⟩
  rw [zu_k _ _ (by omega), zu_k _ _ (by omega)]
  exact kk
def mRpQ (C : Nat) (σ1 : zSt) (n : Nat) (T : Int × Int × zRd) (r : zRd) (τ : zSt) : Option Value → zWd → Prop := fun v w => v = none ∧ ∃ σ' : zSt, w = (zmS C, σ', τ) ∧ (mFlt C σ1 n T σ' ∨ ∃ r' : zRd, r'.1 = 4 ∧ ¬ (zTk (σ1 (C + 1)) n r'.2.1).2.2.1 = 2 ∧ r.2.1 < r'.2.1 ∧ mRdr C σ1 n r' σ' ∧ mRn (σ1 (C + 1)) n T r' ∧ σ' C 19 = r'.2.2.1.length)
theorem mFlt.of {C n : Nat} {σ1 σ : zSt} {T : Int × Int × zRd} {r : zRd} {k : Int} (h : mRdr C σ1 n r σ) (hT : mRn (σ1 (C + 1)) n T r) (h5 : ¬ r.1 = 5) (hz : (zStep (σ1 (C + 1)) r (zTk (σ1 (C + 1)) n r.2.1)).1 = k) (hk : 1 ≤ k ∧ k ≤ 4) : mFlt C σ1 n T (zu (zu σ C 7 k) C 8 (σ C 10)) := by
  have e := hT.bad h5 (by omega)
  refine ⟨(h.1.u (Or.inl (by omega))).u (Or.inl (by omega)), ?_, ?_, ?_⟩
  · rw [zu_k _ _ (by omega), zu_eq, e, ← hz]
  · rw [zu_eq, h.2.2.1.1, e]
  · rw [e]; show 1 ≤ (zStep _ _ _).1 ∧ (zStep _ _ _).1 ≤ 4; omega
theorem m_readPicture {G : zG} {C : Nat} {σ τ : zSt} {σ1 : zSt} {n : Nat} {T : Int × Int × zRd} {r : zRd} (h : mRdr C σ1 n r σ) (hT : mRn (σ1 (C + 1)) n T r) (h0 : r.1 = 0) (h19 : σ C 19 = r.2.2.1.length) (hn : n ≤ 700) (hr : ∀ i, i < n → 0 ≤ σ1 (C + 1) i ∧ σ1 (C + 1) i ≤ 255) : zC G M_X11_readPicture [.ref C] (zmS C, σ, τ) (mRpQ C σ1 n T r τ) := by
  obtain ⟨len, hlen⟩ : ∃ len : Nat, len = r.2.2.1.length := ⟨_, rfl⟩
  rw [← hlen] at h19
  obtain ⟨hb, h7, htk, hpn, hl4, hnm, hpc⟩ := id h
  have ok := zTk_ok (σ1 (C + 1)) (n := n) (p := r.2.1) hpn
  have hww := zTk_w (t := (σ1 (C + 1))) (n := n) (p := r.2.1)
  have e1 := hb.t
  refine zC_of 2 rfl (Nat.le_of_ble_eq_true rfl) ?_
  -- behind a fault
  have F87 : ∀ (σs : zSt), mFlt C σ1 n T σs → zW G M_X11_readPicture (mRpQ C σ1 n T r τ) 87 [some (.ref C), some (vi (len : Int)), none] [] (zmS C, σs, τ) := by
    intro σs hf
    have f7 := hf.2.1
    have f8 := hf.2.2.2
    refine zw_aload_n 88 rfl dX11_readPicture_87 rfl ?_
    refine zw_geti 91 rfl dX11_readPicture_88 fl_X11_94 (by first | assumption | exact zm_o0 | exact zm_o _ _ _ rfl) ?_
    refine zw_if_le 95 94 rfl dX11_readPicture_91 (by decide) (by omega) (fun h_91 => ?_) (fun h_91 => ?_)
    · exfalso; omega
    · exact zw_vret (st := []) dX11_readPicture_94 rfl ⟨rfl, _, rfl, Or.inl hf⟩
  have F56 : ∀ (σs : zSt) (k : Int), mFlt C σ1 n T σs → zW G M_X11_readPicture (mRpQ C σ1 n T r τ) 56 [some (.ref C), some (vi (len : Int)), some (vi k)] [] (zmS C, σs, τ) := by
    intro σs k hf
    have f7 := hf.2.1
    have f8 := hf.2.2.2
    refine zw_aload_n 57 rfl dX11_readPicture_56 rfl ?_
    refine zw_geti 60 rfl dX11_readPicture_57 fl_X11_94 (by first | assumption | exact zm_o0 | exact zm_o _ _ _ rfl) ?_
    refine zw_if_ne 87 63 rfl dX11_readPicture_60 (by decide) (by omega) (fun h_60 => ?_) (fun h_60 => ?_)
    · refine zw_drop 2 ?_
      exact F87 σs hf
    · exfalso; omega
  have F34 : ∀ (σs : zSt), mFlt C σ1 n T σs → zW G M_X11_readPicture (mRpQ C σ1 n T r τ) 34 [some (.ref C), some (vi (len : Int)), none] [] (zmS C, σs, τ) := by
    intro σs hf
    have f7 := hf.2.1
    have f8 := hf.2.2.2
    refine zw_aload_n 35 rfl dX11_readPicture_34 rfl ?_
    refine zw_geti 38 rfl dX11_readPicture_35 fl_X11_94 (by first | assumption | exact zm_o0 | exact zm_o _ _ _ rfl) ?_
    refine zw_if_ne 54 41 rfl dX11_readPicture_38 (by decide) (by omega) (fun h_38 => ?_) (fun h_38 => ?_)
    · refine zw_iconst 55 rfl dX11_readPicture_54 ?_
      refine zw_istore_n 56 rfl dX11_readPicture_55 (Nat.le_of_ble_eq_true rfl) rfl ?_
      exact F56 σs 0 hf
    · exfalso; omega
  have F30 : ∀ (σs : zSt), mFlt C σ1 n T σs → zW G M_X11_readPicture (mRpQ C σ1 n T r τ) 30 [some (.ref C), some (vi (len : Int)), none] [] (zmS C, σs, τ) := by
    intro σs hf
    have f7 := hf.2.1
    have f8 := hf.2.2.2
    refine zw_aload_n 31 rfl dX11_readPicture_30 rfl ?_
    refine zw_cVv0 34 rfl dX11_readPicture_31 kX11_readPicture_127 (Nat.le_of_ble_eq_true rfl) (by first | assumption | exact zm_o0 | exact zm_o _ _ _ rfl) (m_goOnF (by omega)) ?_
    exact F34 σs hf
  have F130 : ∀ (σs : zSt), mFlt C σ1 n T σs → zW G M_X11_readPicture (mRpQ C σ1 n T r τ) 130 [some (.ref C), some (vi (len : Int)), none] [] (zmS C, σs, τ) := by
    intro σs hf
    have f7 := hf.2.1
    have f8 := hf.2.2.2
    refine zw_aload_n 131 rfl dX11_readPicture_130 rfl ?_
    refine zw_bipush 133 rfl dX11_readPicture_131 rfl ?_
    refine zw_cVi1 136 rfl dX11_readPicture_133 kX11_readPicture_144 (Nat.le_of_ble_eq_true rfl) (by first | assumption | exact zm_o0 | exact zm_o _ _ _ rfl) (m_isSignF (by omega)) ?_
    refine zw_if_eq 157 139 rfl dX11_readPicture_136 (by decide) (by omega) (fun h_136 => ?_) (fun h_136 => ?_)
    · refine zw_aload_n 158 rfl dX11_readPicture_157 rfl ?_
      refine zw_geti 161 rfl dX11_readPicture_158 fl_X11_94 (by first | assumption | exact zm_o0 | exact zm_o _ _ _ rfl) ?_
      refine zw_if_ne 174 164 rfl dX11_readPicture_161 (by decide) (by omega) (fun h_161 => ?_) (fun h_161 => ?_)
      · exact zw_vret (st := []) dX11_readPicture_174 rfl ⟨rfl, _, rfl, Or.inl hf⟩
      · exfalso; omega
    · exfalso; omega
  -- the rows
  have rows : ∀ (f : Nat) (rr : zRd) (σs : zSt), n - rr.2.1 ≤ f → rr.1 = 4 → rr.2.2.1.length = len + 1 → r.2.1 < rr.2.1 → mRdr C σ1 n rr σs → mRn (σ1 (C + 1)) n T rr → σs C 19 = len → zW G M_X11_readPicture (mRpQ C σ1 n T r τ) 130 [some (.ref C), some (vi (len : Int)), none] [] (zmS C, σs, τ) := by
    intro f
    induction f with
    | zero =>
      intro rr σs hf h4 hl hp hd hT2 hm
      obtain ⟨xb, x7, xtk, xpn, xl4, xnm, xpc⟩ := id hd
      have okk := zTk_ok (σ1 (C + 1)) (n := n) (p := rr.2.1) xpn
      have pr := zTk_prog (t := (σ1 (C + 1))) xpn
      refine zw_aload_n 131 rfl dX11_readPicture_130 rfl ?_
      refine zw_bipush 133 rfl dX11_readPicture_131 rfl ?_
      refine zw_cVi1 136 rfl dX11_readPicture_133 kX11_readPicture_144 (Nat.le_of_ble_eq_true rfl) (by first | assumption | exact zm_o0 | exact zm_o _ _ _ rfl) (m_isSign x7 xtk (Or.inl rfl)) ?_
      refine zw_if_eqB 157 139 rfl dX11_readPicture_136 (by decide) (fun h_136 => ?_) (fun h_136 => ?_)
      · rw [if_pos rfl] at h_136
        refine zw_aload_n 158 rfl dX11_readPicture_157 rfl ?_
        refine zw_geti 161 rfl dX11_readPicture_158 fl_X11_94 (by first | assumption | exact zm_o0 | exact zm_o _ _ _ rfl) ?_
        rw [x7]
        refine zw_if_ne 174 164 rfl dX11_readPicture_161 (by decide) (by omega) (fun h_161 => ?_) (fun h_161 => ?_)
        · first
          | (exact absurd rfl h_161)
          | (refine zw_vret (st := []) dX11_readPicture_174 rfl ⟨rfl, _, rfl, Or.inr ⟨rr, h4, h_136, hp, hd.m, hT2, ?_⟩⟩
             rw [zu_eq, hl]; rfl)
        · refine zw_aload_n 165 rfl dX11_readPicture_164 rfl ?_
          refine zw_dup 166 rfl dX11_readPicture_165 rfl ?_
          refine zw_geti 169 rfl dX11_readPicture_166 fl_X11_130 (by first | assumption | exact zm_o0 | exact zm_o _ _ _ rfl) ?_
          rw [hm]
          refine zw_iconst 170 rfl dX11_readPicture_169 ?_
          refine zw_iadd 171 rfl dX11_readPicture_170 ?_
          refine zw_puti 174 rfl dX11_readPicture_171 fp_X11_130 (by first | assumption | exact zm_o0 | exact zm_o _ _ _ rfl) ?_
          first
          | (exact absurd rfl h_161)
          | (refine zw_vret (st := []) dX11_readPicture_174 rfl ⟨rfl, _, rfl, Or.inr ⟨rr, h4, h_136, hp, hd.m, hT2, ?_⟩⟩
             rw [zu_eq, hl]; rfl)
      · exfalso; rw [if_pos rfl] at h_136; omega
    | succ f ih =>
      intro rr σs hf h4 hl hp hd hT2 hm
      obtain ⟨xb, x7, xtk, xpn, xl4, xnm, xpc⟩ := id hd
      have okk := zTk_ok (σ1 (C + 1)) (n := n) (p := rr.2.1) xpn
      have pr := zTk_prog (t := (σ1 (C + 1))) xpn
      have more : (zTk (σ1 (C + 1)) n rr.2.1).2.2.1 = 2 → zW G M_X11_readPicture (mRpQ C σ1 n T r τ) 139 [some (.ref C), some (vi (len : Int)), none] [] (zmS C, σs, τ) := by
        intro hk2
        have hz : zStep (σ1 (C + 1)) rr (zTk (σ1 (C + 1)) n rr.2.1) = (0, (3, (zTk (σ1 (C + 1)) n rr.2.1).2.1, rr.2.2.1, rr.2.2.2)) := by
          unfold zStep
          rw [if_neg (by omega), if_neg (by omega), if_pos h4, if_pos hk2]
        have hT3 := hT2.go (by omega) xpn (by rw [hz])
        rw [hz] at hT3
        have xh := (xpc len (by omega) (fun u => by omega))
        refine zw_aload_n 140 rfl dX11_readPicture_139 rfl ?_
        refine zw_cVr0 143 rfl dX11_readPicture_140 kX11_readPicture_127 (Nat.le_of_ble_eq_true rfl) (by first | assumption | exact zm_o0 | exact zm_o _ _ _ rfl) (m_goR (r := (3, (zTk (σ1 (C + 1)) n rr.2.1).2.1, rr.2.2.1, rr.2.2.2)) xb x7 xtk.2.1 okk.1.2.2 xl4 xnm (fun q q1 q2 => xpc q q1 (fun u => by omega)) hn hr) ?_
        rintro _ _ ⟨rfl, σ4, rfl, m4, d4⟩
        have xh4 := (d4.2.2.2.2.2.2 len (show len < rr.2.2.1.length by omega) (fun u => absurd u (by show ¬ (3 : Int) = 2; omega)))
        refine zw_aload_n 144 rfl dX11_readPicture_143 rfl ?_
        refine zw_iload_n 145 rfl dX11_readPicture_144 rfl ?_
        refine zw_aload_n 146 rfl dX11_readPicture_145 rfl ?_
        refine zw_getr 149 rfl dX11_readPicture_146 fl_X11_26 (by first | assumption | exact zm_o0 | exact zm_o _ _ _ rfl) (by first | assumption | exact zm_f _ _ rfl) ?_
        refine zw_iload_n 150 rfl dX11_readPicture_149 rfl ?_
        refine zw_iald 151 rfl dX11_readPicture_150 (by first | assumption | exact zm_o0 | exact zm_o _ _ _ rfl) (by omega) (by omega) ?_
        rw [Int.toNat_natCast, xh4.2.2.1]
        refine zw_cVr2 154 rfl dX11_readPicture_151 kX11_readPicture_140 (Nat.le_of_ble_eq_true rfl) (by first | assumption | exact zm_o0 | exact zm_o _ _ _ rfl) (m_readRow (r := (3, (zTk (σ1 (C + 1)) n rr.2.1).2.1, rr.2.2.1, rr.2.2.2)) d4 hT3 hn hr (show 1 ≤ rr.2.2.1.length by omega) (show (len : Int) = ((rr.2.2.1.length - 1 : Nat) : Int) by omega) (Or.inr ⟨rfl, show (rr.2.2.2 len).2.1 = (rr.2.2.2 (rr.2.2.1.length - 1)).2.1 by rw [show rr.2.2.1.length - 1 = len by omega]⟩)) ?_
        rintro _ _ ⟨rfl, σ5, rfl, m5, hor⟩
        refine zw_goto 130 dX11_readPicture_154 (by decide) ?_
        rcases hor with hf5 | ⟨r5, a1, a2, a3, a4, a5⟩
        · exact F130 σ5 hf5
        · have a3 : (zTk (σ1 (C + 1)) n rr.2.1).2.1 < r5.2.1 := a3
          exact ih r5 σ5 (by omega) a1 (by rw [a2]; exact hl) (by omega) a4 a5 (by rw [m5, m4]; exact hm)
      refine zw_aload_n 131 rfl dX11_readPicture_130 rfl ?_
      refine zw_bipush 133 rfl dX11_readPicture_131 rfl ?_
      refine zw_cVi1 136 rfl dX11_readPicture_133 kX11_readPicture_144 (Nat.le_of_ble_eq_true rfl) (by first | assumption | exact zm_o0 | exact zm_o _ _ _ rfl) (m_isSign x7 xtk (Or.inl rfl)) ?_
      refine zw_if_eqB 157 139 rfl dX11_readPicture_136 (by decide) (fun h_136 => ?_) (fun h_136 => ?_)
      · rw [if_pos rfl] at h_136
        refine zw_aload_n 158 rfl dX11_readPicture_157 rfl ?_
        refine zw_geti 161 rfl dX11_readPicture_158 fl_X11_94 (by first | assumption | exact zm_o0 | exact zm_o _ _ _ rfl) ?_
        rw [x7]
        refine zw_if_ne 174 164 rfl dX11_readPicture_161 (by decide) (by omega) (fun h_161 => ?_) (fun h_161 => ?_)
        · first
          | (exact absurd rfl h_161)
          | (refine zw_vret (st := []) dX11_readPicture_174 rfl ⟨rfl, _, rfl, Or.inr ⟨rr, h4, h_136, hp, hd.m, hT2, ?_⟩⟩
             rw [zu_eq, hl]; rfl)
        · refine zw_aload_n 165 rfl dX11_readPicture_164 rfl ?_
          refine zw_dup 166 rfl dX11_readPicture_165 rfl ?_
          refine zw_geti 169 rfl dX11_readPicture_166 fl_X11_130 (by first | assumption | exact zm_o0 | exact zm_o _ _ _ rfl) ?_
          rw [hm]
          refine zw_iconst 170 rfl dX11_readPicture_169 ?_
          refine zw_iadd 171 rfl dX11_readPicture_170 ?_
          refine zw_puti 174 rfl dX11_readPicture_171 fp_X11_130 (by first | assumption | exact zm_o0 | exact zm_o _ _ _ rfl) ?_
          first
          | (exact absurd rfl h_161)
          | (refine zw_vret (st := []) dX11_readPicture_174 rfl ⟨rfl, _, rfl, Or.inr ⟨rr, h4, h_136, hp, hd.m, hT2, ?_⟩⟩
             rw [zu_eq, hl]; rfl)
      · rw [if_pos rfl] at h_136
        exact more h_136
  -- the name
  have name : ∀ (r1 : zRd) (σs : zSt), r1.1 = 1 → r1.2.2.1 = r.2.2.1 → len < 4 → r.2.1 < r1.2.1 → mRdr C σ1 n r1 σs → mRn (σ1 (C + 1)) n T r1 → σs C 19 = len → zW G M_X11_readPicture (mRpQ C σ1 n T r τ) 34 [some (.ref C), some (vi (len : Int)), none] [] (zmS C, σs, τ) := by
    intro r1 σs g1 g2 g3 g4 hd hT2 hm
    obtain ⟨xb, x7, xtk, xpn, xl4, xnm, xpc⟩ := id hd
    have okk := zTk_ok (σ1 (C + 1)) (n := n) (p := r1.2.1) xpn
    have wk := zTk_w (t := (σ1 (C + 1))) (n := n) (p := r1.2.1)
    have pr := zTk_prog (t := (σ1 (C + 1))) xpn
    have xe := xb.t
    have hst : zStep (σ1 (C + 1)) r1 (zTk (σ1 (C + 1)) n r1.2.1) = if (zTk (σ1 (C + 1)) n r1.2.1).2.2.1 = 1 then (if zWo (σ1 (C + 1)) (zTk (σ1 (C + 1)) n r1.2.1).1 (zTk (σ1 (C + 1)) n r1.2.1).2.2.2 ∈ r1.2.2.1 then (3, r1) else (0, (2, (zTk (σ1 (C + 1)) n r1.2.1).2.1, r1.2.2.1 ++ [zWo (σ1 (C + 1)) (zTk (σ1 (C + 1)) n r1.2.1).1 (zTk (σ1 (C + 1)) n r1.2.1).2.2.2], r1.2.2.2))) else (1, r1) := by
      unfold zStep
      rw [if_neg (by omega), if_pos g1]
    have hx9 := xtk.2.2
    by_cases hk1 : (zTk (σ1 (C + 1)) n r1.2.1).2.2.1 = 1
    · rw [if_pos hk1] at hst
      have wv := wk hk1
      have wl := okk.2.2.2.2 hk1
      have wn := okk.2.1
      have wr := okk.2.2.1
      have x6 := xtk.2.1
      have x10 := xtk.1
      -- a new name
      have put : ¬ zWo (σ1 (C + 1)) (zTk (σ1 (C + 1)) n r1.2.1).1 (zTk (σ1 (C + 1)) n r1.2.1).2.2.2 ∈ r1.2.2.1 → zW G M_X11_readPicture (mRpQ C σ1 n T r τ) 95 [some (.ref C), some (vi (len : Int)), none] [] (zmS C, σs, τ) := by
        intro hnew
        rw [if_neg hnew] at hst
        have hT3 := hT2.go (by omega) xpn (by rw [hst])
        rw [hst] at hT3
        obtain ⟨r2, hr2⟩ : ∃ r2 : zRd, r2 = (2, (zTk (σ1 (C + 1)) n r1.2.1).2.1, r1.2.2.1 ++ [zWo (σ1 (C + 1)) (zTk (σ1 (C + 1)) n r1.2.1).1 (zTk (σ1 (C + 1)) n r1.2.1).2.2.2], r1.2.2.2) := ⟨_, rfl⟩
        rw [← hr2] at hT3
        have q1 : r2.1 = 2 := by rw [hr2]
        have q2 : r2.2.1 = (zTk (σ1 (C + 1)) n r1.2.1).2.1 := by rw [hr2]
        have q3 : r2.2.2.1 = r1.2.2.1 ++ [zWo (σ1 (C + 1)) (zTk (σ1 (C + 1)) n r1.2.1).1 (zTk (σ1 (C + 1)) n r1.2.1).2.2.2] := by rw [hr2]
        have q4 : r2.2.2.2 = r1.2.2.2 := by rw [hr2]
        have ql : r2.2.2.1.length = len + 1 := by rw [q3, List.length_append, g2, ← hlen]; rfl
        have hl1 : r1.2.2.1.length = len := by rw [g2, ← hlen]
        obtain ⟨σ3, hσ3⟩ : ∃ σ3, σ3 = zu (zu σs (C + 2) len (zTk (σ1 (C + 1)) n r1.2.1).1) (C + 3) len ((zTk (σ1 (C + 1)) n r1.2.1).2.2.2 : Nat) := ⟨_, rfl⟩
        have b3 : mRb C σ1 n σ3 := by rw [hσ3]; exact (xb.u (Or.inr (by omega))).u (Or.inr (by omega))
        have s3 : ∀ b j, ¬ (b = C + 2 ∧ j = len) → ¬ (b = C + 3 ∧ j = len) → σ3 b j = σs b j := fun b j u1 u2 => by rw [hσ3, zu_ne _ _ u2, zu_ne _ _ u1]
        have nm3 : mRnm C (σ1 (C + 1)) n r2.2.2.1 σ3 := by
          intro p hp
          rw [ql] at hp
          by_cases e : p = len
          · subst e
            refine ⟨(zTk (σ1 (C + 1)) n r1.2.1).1, (zTk (σ1 (C + 1)) n r1.2.1).2.2.2, by rw [hσ3, zu_a _ _ (by omega), zu_eq], by rw [hσ3, zu_eq], wn, wl, ?_, wr⟩
            rw [q3, List.getD_eq_getElem?_getD, List.getElem?_append_right (by omega), hl1]
            simp
          · obtain ⟨a, l, u1, u2, u3, u4, u5, u6⟩ := xnm p (by omega)
            refine ⟨a, l, by rw [s3 _ _ (by omega) (by omega)]; exact u1, by rw [s3 _ _ (by omega) (by omega)]; exact u2, u3, u4, ?_, u6⟩
            rw [q3, List.getD_eq_getElem?_getD, List.getElem?_append_left (by omega), ← List.getD_eq_getElem?_getD]
            exact u5
        have pc3 : ∀ p, p < r2.2.2.1.length → (r2.1 = 2 → p + 1 < r2.2.2.1.length) → mRpc C σ3 p (r2.2.2.2 p) := by
          intro p u1 u2
          have := u2 q1
          rw [q4]
          exact (xpc p (by omega) (fun u => by omega)).c (s3 _ _ (by omega) (by omega)) (s3 _ _ (by omega) (by omega)) (fun j _ _ => s3 _ _ (by omega) (by omega))
        refine zw_aload_n 96 rfl dX11_readPicture_95 rfl ?_
        refine zw_getr 99 rfl dX11_readPicture_96 fl_X11_17 (by first | assumption | exact zm_o0 | exact zm_o _ _ _ rfl) (by first | assumption | exact zm_f _ _ rfl) ?_
        refine zw_iload_n 100 rfl dX11_readPicture_99 rfl ?_
        refine zw_aload_n 101 rfl dX11_readPicture_100 rfl ?_
        refine zw_geti 104 rfl dX11_readPicture_101 fl_X11_97 (by first | assumption | exact zm_o0 | exact zm_o _ _ _ rfl) ?_
        rw [x10]
        refine zw_iast 105 rfl dX11_readPicture_104 (by first | assumption | exact zm_o0 | exact zm_o _ _ _ rfl) (by omega) (by omega) ?_
        rw [Int.toNat_natCast]
        refine zw_aload_n 106 rfl dX11_readPicture_105 rfl ?_
        refine zw_getr 109 rfl dX11_readPicture_106 fl_X11_20 (by first | assumption | exact zm_o0 | exact zm_o _ _ _ rfl) (by first | assumption | exact zm_f _ _ rfl) ?_
        refine zw_iload_n 110 rfl dX11_readPicture_109 rfl ?_
        refine zw_aload_n 111 rfl dX11_readPicture_110 rfl ?_
        refine zw_geti 114 rfl dX11_readPicture_111 fl_X11_110 (by first | assumption | exact zm_o0 | exact zm_o _ _ _ rfl) ?_
        rw [zu_a _ _ (by omega), x6]
        refine zw_aload_n 115 rfl dX11_readPicture_114 rfl ?_
        refine zw_geti 118 rfl dX11_readPicture_115 fl_X11_97 (by first | assumption | exact zm_o0 | exact zm_o _ _ _ rfl) ?_
        rw [zu_a _ _ (by omega), x10]
        refine zw_isub 119 rfl dX11_readPicture_118 ?_
        rw [show (((zTk (σ1 (C + 1)) n r1.2.1).2.1 : Nat) : Int) - (((zTk (σ1 (C + 1)) n r1.2.1).1 : Nat) : Int) = (((zTk (σ1 (C + 1)) n r1.2.1).2.2.2 : Nat) : Int) by omega]
        refine zw_iast 120 rfl dX11_readPicture_119 (by first | assumption | exact zm_o0 | exact zm_o _ _ _ rfl) (by omega) (by omega) ?_
        rw [Int.toNat_natCast, ← hσ3]
        refine zw_aload_n 121 rfl dX11_readPicture_120 rfl ?_
        refine zw_cVr0 124 rfl dX11_readPicture_121 kX11_readPicture_127 (Nat.le_of_ble_eq_true rfl) (by first | assumption | exact zm_o0 | exact zm_o _ _ _ rfl) (m_goR (r := r2) b3 (by rw [s3 _ _ (by omega) (by omega)]; exact x7) (by rw [s3 _ _ (by omega) (by omega), q2]; exact x6) (by rw [q2]; exact okk.1.2.2) (by omega) nm3 pc3 hn hr) ?_
        rintro _ _ ⟨rfl, σ4, rfl, m4, d4⟩
        refine zw_aload_n 125 rfl dX11_readPicture_124 rfl ?_
        refine zw_iload_n 126 rfl dX11_readPicture_125 rfl ?_
        refine zw_iconst 127 rfl dX11_readPicture_126 ?_
        refine zw_cVr2 130 rfl dX11_readPicture_127 kX11_readPicture_140 (Nat.le_of_ble_eq_true rfl) (by first | assumption | exact zm_o0 | exact zm_o _ _ _ rfl) (m_readRow (r := r2) d4 hT3 hn hr (by omega) (by omega) (Or.inl ⟨q1, rfl⟩)) ?_
        rintro _ _ ⟨rfl, σ5, rfl, m5, hor⟩
        rcases hor with hf5 | ⟨r5, a1, a2, a3, a4, a5⟩
        · exact F130 σ5 hf5
        · exact rows (n - r5.2.1) r5 σ5 (Nat.le_refl _) a1 (by rw [a2]; exact ql) (by rw [q2] at a3; omega) a4 a5 (by rw [m5, m4, s3 _ _ (by omega) (by omega)]; exact hm)
      -- is it told already
      have like : ∀ (f k : Nat), f + k = len → (∀ i, i < k → r1.2.2.1.getD i [] ≠ zWo (σ1 (C + 1)) (zTk (σ1 (C + 1)) n r1.2.1).1 (zTk (σ1 (C + 1)) n r1.2.1).2.2.2) → zW G M_X11_readPicture (mRpQ C σ1 n T r τ) 56 [some (.ref C), some (vi (len : Int)), some (vi k)] [] (zmS C, σs, τ) := by
        have hl1 : r1.2.2.1.length = len := by rw [g2, ← hlen]
        intro f
        induction f with
        | zero =>
          intro k hk hne
          refine zw_aload_n 57 rfl dX11_readPicture_56 rfl ?_
          refine zw_geti 60 rfl dX11_readPicture_57 fl_X11_94 (by first | assumption | exact zm_o0 | exact zm_o _ _ _ rfl) ?_
          rw [x7]
          refine zw_if_ne 87 63 rfl dX11_readPicture_60 (by decide) (by omega) (fun h_60 => ?_) (fun h_60 => ?_)
          · refine zw_aload_n 88 rfl dX11_readPicture_87 rfl ?_
            refine zw_geti 91 rfl dX11_readPicture_88 fl_X11_94 (by first | assumption | exact zm_o0 | exact zm_o _ _ _ rfl) ?_
            rw [x7]
            refine zw_if_le 95 94 rfl dX11_readPicture_91 (by decide) (by omega) (fun h_91 => ?_) (fun h_91 => ?_)
            · first
              | (exact absurd rfl h_60)
              | (refine zw_drop 2 ?_
                 refine put (fun hm => ?_)
                 obtain ⟨i, hi, e⟩ := List.mem_iff_getElem.mp hm
                 refine hne i (by omega) ?_
                 rw [List.getD_eq_getElem?_getD, List.getElem?_eq_getElem hi]
                 exact e)
            · exfalso; omega
          · refine zw_iload_n 64 rfl dX11_readPicture_63 rfl ?_
            refine zw_iload_n 65 rfl dX11_readPicture_64 rfl ?_
            refine zw_icmp_ge 87 68 rfl dX11_readPicture_65 (by decide) (by omega) (by omega) (fun h_65 => ?_) (fun h_65 => ?_)
            · refine zw_aload_n 88 rfl dX11_readPicture_87 rfl ?_
              refine zw_geti 91 rfl dX11_readPicture_88 fl_X11_94 (by first | assumption | exact zm_o0 | exact zm_o _ _ _ rfl) ?_
              rw [x7]
              refine zw_if_le 95 94 rfl dX11_readPicture_91 (by decide) (by omega) (fun h_91 => ?_) (fun h_91 => ?_)
              · first
                | (exact absurd rfl h_60)
                | (refine zw_drop 2 ?_
                   refine put (fun hm => ?_)
                   obtain ⟨i, hi, e⟩ := List.mem_iff_getElem.mp hm
                   refine hne i (by omega) ?_
                   rw [List.getD_eq_getElem?_getD, List.getElem?_eq_getElem hi]
                   exact e)
              · exfalso; omega
            · exfalso; omega
        | succ f ih =>
          intro k hk hne
          obtain ⟨a, l, u1, u2, u3, u4, u5, u6⟩ := xnm k (by omega)
          refine zw_aload_n 57 rfl dX11_readPicture_56 rfl ?_
          refine zw_geti 60 rfl dX11_readPicture_57 fl_X11_94 (by first | assumption | exact zm_o0 | exact zm_o _ _ _ rfl) ?_
          rw [x7]
          refine zw_if_ne 87 63 rfl dX11_readPicture_60 (by decide) (by omega) (fun h_60 => ?_) (fun h_60 => ?_)
          · first
            | (exact absurd rfl h_60)
            | (exfalso; omega)
          · refine zw_iload_n 64 rfl dX11_readPicture_63 rfl ?_
            refine zw_iload_n 65 rfl dX11_readPicture_64 rfl ?_
            refine zw_icmp_ge 87 68 rfl dX11_readPicture_65 (by decide) (by omega) (by omega) (fun h_65 => ?_) (fun h_65 => ?_)
            · first
              | (exact absurd rfl h_60)
              | (exfalso; omega)
            · refine zw_aload_n 69 rfl dX11_readPicture_68 rfl ?_
              refine zw_iload_n 70 rfl dX11_readPicture_69 rfl ?_
              refine zw_cVi1 73 rfl dX11_readPicture_70 kX11_readPicture_137 (Nat.le_of_ble_eq_true rfl) (by first | assumption | exact zm_o0 | exact zm_o _ _ _ rfl) (m_isLike (n := n) (a := a) (l := l) xtk ⟨wv, wn, wl.2⟩ (by omega) (by rw [Int.toNat_natCast]; exact u1) (by rw [Int.toNat_natCast]; exact u2) ⟨u3, u4.2⟩ hn (by rw [xe]; exact hr)) ?_
              refine zw_if_eqB 81 76 rfl dX11_readPicture_73 (by decide) (fun h_73 => ?_) (fun h_73 => ?_)
              · skip
                refine zw_iinc 84 rfl dX11_readPicture_81 (Nat.le_of_ble_eq_true rfl) rfl rfl ?_
                refine zw_goto 56 dX11_readPicture_84 (by decide) ?_
                first
                | (exact F56 _ _ (mFlt.of hd hT2 (by omega) hz (by omega)))
                | (rw [xe] at h_73
                   refine ih (k + 1) (by omega) (fun i hi => ?_)
                   by_cases e : i = k
                   · subst e; rw [u5]; exact h_73
                   · exact hne i (by omega))
              · rw [xe] at h_73
                have hz : (zStep (σ1 (C + 1)) r1 (zTk (σ1 (C + 1)) n r1.2.1)).1 = 3 := by
                  rw [hst, if_pos (by rw [← h_73, ← u5, List.getD_eq_getElem?_getD, List.getElem?_eq_getElem (show k < r1.2.2.1.length by omega)]; exact List.getElem_mem _)]
                refine zw_aload_n 77 rfl dX11_readPicture_76 rfl ?_
                refine zw_iconst 78 rfl dX11_readPicture_77 ?_
                refine zw_cVv1 81 rfl dX11_readPicture_78 kX11_readPicture_123 (Nat.le_of_ble_eq_true rfl) (by first | assumption | exact zm_o0 | exact zm_o _ _ _ rfl) (m_flaw0 x7) ?_
                skip
                refine zw_iinc 84 rfl dX11_readPicture_81 (Nat.le_of_ble_eq_true rfl) rfl rfl ?_
                refine zw_goto 56 dX11_readPicture_84 (by decide) ?_
                first
                | (exact F56 _ _ (mFlt.of hd hT2 (by omega) hz (by omega)))
                | (rw [xe] at h_73
                   refine ih (k + 1) (by omega) (fun i hi => ?_)
                   by_cases e : i = k
                   · subst e; rw [u5]; exact h_73
                   · exact hne i (by omega))
      refine zw_aload_n 35 rfl dX11_readPicture_34 rfl ?_
      refine zw_geti 38 rfl dX11_readPicture_35 fl_X11_94 (by first | assumption | exact zm_o0 | exact zm_o _ _ _ rfl) ?_
      rw [x7]
      refine zw_if_ne 54 41 rfl dX11_readPicture_38 (by decide) (by omega) (fun h_38 => ?_) (fun h_38 => ?_)
      · refine zw_iconst 55 rfl dX11_readPicture_54 ?_
        refine zw_istore_n 56 rfl dX11_readPicture_55 (Nat.le_of_ble_eq_true rfl) rfl ?_
        first
        | (exact absurd rfl h_38)
        | (exact like len 0 (by omega) (fun i hi => absurd hi (by omega)))
      · refine zw_aload_n 42 rfl dX11_readPicture_41 rfl ?_
        refine zw_geti 45 rfl dX11_readPicture_42 fl_X11_113 (by first | assumption | exact zm_o0 | exact zm_o _ _ _ rfl) ?_
        refine zw_iconst 46 rfl dX11_readPicture_45 ?_
        refine zw_icmp_eq 54 49 rfl dX11_readPicture_46 (by decide) (by omega) (by omega) (fun h_46 => ?_) (fun h_46 => ?_)
        · refine zw_iconst 55 rfl dX11_readPicture_54 ?_
          refine zw_istore_n 56 rfl dX11_readPicture_55 (Nat.le_of_ble_eq_true rfl) rfl ?_
          first
          | (exact absurd rfl h_38)
          | (exact like len 0 (by omega) (fun i hi => absurd hi (by omega)))
        · exfalso; omega
    · rw [if_neg hk1] at hst
      have hz : (zStep (σ1 (C + 1)) r1 (zTk (σ1 (C + 1)) n r1.2.1)).1 = 1 := by rw [hst]
      refine zw_aload_n 35 rfl dX11_readPicture_34 rfl ?_
      refine zw_geti 38 rfl dX11_readPicture_35 fl_X11_94 (by first | assumption | exact zm_o0 | exact zm_o _ _ _ rfl) ?_
      rw [x7]
      refine zw_if_ne 54 41 rfl dX11_readPicture_38 (by decide) (by omega) (fun h_38 => ?_) (fun h_38 => ?_)
      · refine zw_iconst 55 rfl dX11_readPicture_54 ?_
        refine zw_istore_n 56 rfl dX11_readPicture_55 (Nat.le_of_ble_eq_true rfl) rfl ?_
        first
        | (exact absurd rfl h_38)
        | (exfalso; omega)
        | (exact F56 _ _ (mFlt.of hd hT2 (by omega) hz (by omega)))
      · refine zw_aload_n 42 rfl dX11_readPicture_41 rfl ?_
        refine zw_geti 45 rfl dX11_readPicture_42 fl_X11_113 (by first | assumption | exact zm_o0 | exact zm_o _ _ _ rfl) ?_
        refine zw_iconst 46 rfl dX11_readPicture_45 ?_
        refine zw_icmp_eq 54 49 rfl dX11_readPicture_46 (by decide) (by omega) (by omega) (fun h_46 => ?_) (fun h_46 => ?_)
        · refine zw_iconst 55 rfl dX11_readPicture_54 ?_
          refine zw_istore_n 56 rfl dX11_readPicture_55 (Nat.le_of_ble_eq_true rfl) rfl ?_
          first
          | (exact absurd rfl h_38)
          | (exfalso; omega)
          | (exact F56 _ _ (mFlt.of hd hT2 (by omega) hz (by omega)))
        · refine zw_aload_n 50 rfl dX11_readPicture_49 rfl ?_
          refine zw_iconst 51 rfl dX11_readPicture_50 ?_
          refine zw_cVv1 54 rfl dX11_readPicture_51 kX11_readPicture_123 (Nat.le_of_ble_eq_true rfl) (by first | assumption | exact zm_o0 | exact zm_o _ _ _ rfl) (m_flaw0 x7) ?_
          refine zw_iconst 55 rfl dX11_readPicture_54 ?_
          refine zw_istore_n 56 rfl dX11_readPicture_55 (Nat.le_of_ble_eq_true rfl) rfl ?_
          first
          | (exact absurd rfl h_38)
          | (exfalso; omega)
          | (exact F56 _ _ (mFlt.of hd hT2 (by omega) hz (by omega)))
  -- the word pic
  have hst : zStep (σ1 (C + 1)) r (zTk (σ1 (C + 1)) n r.2.1) = if (zTk (σ1 (C + 1)) n r.2.1).2.2.1 = 1 ∧ zWo (σ1 (C + 1)) (zTk (σ1 (C + 1)) n r.2.1).1 (zTk (σ1 (C + 1)) n r.2.1).2.2.2 = [15, 8, 2] then ((if r.2.2.1.length < 4 then 0 else 4), (1, (zTk (σ1 (C + 1)) n r.2.1).2.1, r.2.2.1, r.2.2.2)) else (1, r) := by
    unfold zStep
    rw [if_pos h0]
  have cP := m_isPic (G := G) (τ := τ) (n := n) htk (fun q => ⟨hww q, by have := ok.2.1; exact this⟩) ⟨ok.1.2.1, ok.1.2.2⟩ hn (by rw [e1]; exact hr)
  rw [e1] at cP
  by_cases hpic : (zTk (σ1 (C + 1)) n r.2.1).2.2.1 = 1 ∧ zWo (σ1 (C + 1)) (zTk (σ1 (C + 1)) n r.2.1).1 (zTk (σ1 (C + 1)) n r.2.1).2.2.2 = [15, 8, 2]
  · rw [if_pos hpic] at hst
    have pr := zTk_prog (t := (σ1 (C + 1))) hpn
    by_cases h4 : len < 4
    · rw [if_pos (show r.2.2.1.length < 4 by omega)] at hst
      have hT3 := hT.go (by omega) hpn (by rw [hst])
      rw [hst] at hT3
      refine zw_aload_n 1 rfl dX11_readPicture_0 rfl ?_
      refine zw_geti 4 rfl dX11_readPicture_1 fl_X11_130 (by first | assumption | exact zm_o0 | exact zm_o _ _ _ rfl) ?_
      rw [h19]
      refine zw_istore_n 5 rfl dX11_readPicture_4 (Nat.le_of_ble_eq_true rfl) rfl ?_
      refine zw_aload_n 6 rfl dX11_readPicture_5 rfl ?_
      refine zw_cVi0 9 rfl dX11_readPicture_6 kX11_readPicture_133 (Nat.le_of_ble_eq_true rfl) (by first | assumption | exact zm_o0 | exact zm_o _ _ _ rfl) cP ?_
      refine zw_if_neB 20 12 rfl dX11_readPicture_9 (by decide) (fun h_9 => ?_) (fun h_9 => ?_)
      · refine zw_iload_n 21 rfl dX11_readPicture_20 rfl ?_
        refine zw_iconst 22 rfl dX11_readPicture_21 ?_
        refine zw_icmp_ne 30 25 rfl dX11_readPicture_22 (by decide) (by omega) (by omega) (fun h_22 => ?_) (fun h_22 => ?_)
        · refine zw_aload_n 31 rfl dX11_readPicture_30 rfl ?_
          refine zw_cVr0 34 rfl dX11_readPicture_31 kX11_readPicture_127 (Nat.le_of_ble_eq_true rfl) (by first | assumption | exact zm_o0 | exact zm_o _ _ _ rfl) (m_goR (r := (1, (zTk (σ1 (C + 1)) n r.2.1).2.1, r.2.2.1, r.2.2.2)) hb h7 htk.2.1 ok.1.2.2 hl4 hnm (fun q q1 q2 => hpc q q1 (fun u => by omega)) hn hr) ?_
          rintro _ _ ⟨rfl, σ4, rfl, m4, d4⟩
          exact name (1, (zTk (σ1 (C + 1)) n r.2.1).2.1, r.2.2.1, r.2.2.2) σ4 rfl rfl h4 (by show r.2.1 < (zTk (σ1 (C + 1)) n r.2.1).2.1; omega) d4 hT3 (by rw [m4]; exact h19)
        · exfalso; omega
      · exact absurd hpic h_9
    · rw [if_neg (show ¬ r.2.2.1.length < 4 by omega)] at hst
      have hz : (zStep (σ1 (C + 1)) r (zTk (σ1 (C + 1)) n r.2.1)).1 = 4 := by rw [hst]
      refine zw_aload_n 1 rfl dX11_readPicture_0 rfl ?_
      refine zw_geti 4 rfl dX11_readPicture_1 fl_X11_130 (by first | assumption | exact zm_o0 | exact zm_o _ _ _ rfl) ?_
      rw [h19]
      refine zw_istore_n 5 rfl dX11_readPicture_4 (Nat.le_of_ble_eq_true rfl) rfl ?_
      refine zw_aload_n 6 rfl dX11_readPicture_5 rfl ?_
      refine zw_cVi0 9 rfl dX11_readPicture_6 kX11_readPicture_133 (Nat.le_of_ble_eq_true rfl) (by first | assumption | exact zm_o0 | exact zm_o _ _ _ rfl) cP ?_
      refine zw_if_neB 20 12 rfl dX11_readPicture_9 (by decide) (fun h_9 => ?_) (fun h_9 => ?_)
      · refine zw_iload_n 21 rfl dX11_readPicture_20 rfl ?_
        refine zw_iconst 22 rfl dX11_readPicture_21 ?_
        refine zw_icmp_ne 30 25 rfl dX11_readPicture_22 (by decide) (by omega) (by omega) (fun h_22 => ?_) (fun h_22 => ?_)
        · first
          | (exfalso; omega)
          | (exact F30 _ (mFlt.of h hT (by omega) hz (by omega)))
        · refine zw_aload_n 26 rfl dX11_readPicture_25 rfl ?_
          refine zw_iconst 27 rfl dX11_readPicture_26 ?_
          refine zw_cVv1 30 rfl dX11_readPicture_27 kX11_readPicture_123 (Nat.le_of_ble_eq_true rfl) (by first | assumption | exact zm_o0 | exact zm_o _ _ _ rfl) (m_flaw0 h7) ?_
          first
          | (exfalso; omega)
          | (exact F30 _ (mFlt.of h hT (by omega) hz (by omega)))
      · exact absurd hpic h_9
  · rw [if_neg hpic] at hst
    have hz : (zStep (σ1 (C + 1)) r (zTk (σ1 (C + 1)) n r.2.1)).1 = 1 := by rw [hst]
    refine zw_aload_n 1 rfl dX11_readPicture_0 rfl ?_
    refine zw_geti 4 rfl dX11_readPicture_1 fl_X11_130 (by first | assumption | exact zm_o0 | exact zm_o _ _ _ rfl) ?_
    rw [h19]
    refine zw_istore_n 5 rfl dX11_readPicture_4 (Nat.le_of_ble_eq_true rfl) rfl ?_
    refine zw_aload_n 6 rfl dX11_readPicture_5 rfl ?_
    refine zw_cVi0 9 rfl dX11_readPicture_6 kX11_readPicture_133 (Nat.le_of_ble_eq_true rfl) (by first | assumption | exact zm_o0 | exact zm_o _ _ _ rfl) cP ?_
    refine zw_if_neB 20 12 rfl dX11_readPicture_9 (by decide) (fun h_9 => ?_) (fun h_9 => ?_)
    · exact absurd h_9 hpic
    · refine zw_aload_n 13 rfl dX11_readPicture_12 rfl ?_
      refine zw_iconst 14 rfl dX11_readPicture_13 ?_
      refine zw_cVv1 17 rfl dX11_readPicture_14 kX11_readPicture_123 (Nat.le_of_ble_eq_true rfl) (by first | assumption | exact zm_o0 | exact zm_o _ _ _ rfl) (m_flaw0 h7) ?_
      refine zw_goto 30 dX11_readPicture_17 (by decide) ?_
      exact F30 _ (mFlt.of h hT (by omega) hz (by omega))
