/-! ===== the model's tokens ===== -/
def mTok (C : Nat) (K : zTok) (σ : zSt) : Prop := σ C 10 = K.1 ∧ σ C 6 = K.2.1 ∧ ((K.2.2.1 = 0 ∧ σ C 9 = 1) ∨ (K.2.2.1 = 1 ∧ σ C 9 = 2) ∨ (K.2.2.1 = 2 ∧ σ C 9 = 3 ∧ σ C 11 = 47) ∨ (K.2.2.1 = 3 ∧ σ C 9 = 3 ∧ σ C 11 = 59) ∨ (K.2.2.1 = 4 ∧ σ C 9 = 0))
theorem zTk_w {t : Nat → Int} {n p : Nat} (h : (zTk t n p).2.2.1 = 1) : (zTk t n p).2.1 = (zTk t n p).1 + (zTk t n p).2.2.2 := by
  unfold zTk at *
  split at h
  · rename_i q
    rw [if_pos q]
    dsimp only at h ⊢
    omega
  · exfalso
    split at h
    · simp at h
    · revert h; dsimp only; (repeat' split) <;> omega
theorem m_flawF {G : zG} {C : Nat} {σ τ : zSt} {k : Int} (h : 1 ≤ σ C 7 ∧ σ C 7 ≤ 4) : zC G M_X11_flaw [.ref C, vi k] (zmS C, σ, τ) (zR none (zmS C, σ, τ)) := by
  refine zC_of 0 rfl (Nat.le_of_ble_eq_true rfl) ?_
  refine zw_aload_n 1 rfl dX11_flaw_0 rfl ?_
  refine zw_geti 4 rfl dX11_flaw_1 fl_X11_94 (by first | assumption | exact zm_o0 | exact zm_o _ _ _ rfl) ?_
  refine zw_if_le 8 7 rfl dX11_flaw_4 (by decide) (by omega) (fun h_4 => ?_) (fun h_4 => ?_)
  · exfalso; omega
  · exact zw_vretR dX11_flaw_7 rfl rfl
theorem m_flaw0 {G : zG} {C : Nat} {σ τ : zSt} {k : Int} (h : σ C 7 = 0) : zC G M_X11_flaw [.ref C, vi k] (zmS C, σ, τ) (zR none (zmS C, zu (zu σ C 7 k) C 8 (σ C 10), τ)) := by
  refine zC_of 0 rfl (Nat.le_of_ble_eq_true rfl) ?_
  refine zw_aload_n 1 rfl dX11_flaw_0 rfl ?_
  refine zw_geti 4 rfl dX11_flaw_1 fl_X11_94 (by first | assumption | exact zm_o0 | exact zm_o _ _ _ rfl) ?_
  refine zw_if_le 8 7 rfl dX11_flaw_4 (by decide) (by omega) (fun h_4 => ?_) (fun h_4 => ?_)
  · refine zw_aload_n 9 rfl dX11_flaw_8 rfl ?_
    refine zw_iload_n 10 rfl dX11_flaw_9 rfl ?_
    refine zw_puti 13 rfl dX11_flaw_10 fp_X11_94 (by first | assumption | exact zm_o0 | exact zm_o _ _ _ rfl) ?_
    refine zw_aload_n 14 rfl dX11_flaw_13 rfl ?_
    refine zw_aload_n 15 rfl dX11_flaw_14 rfl ?_
    refine zw_geti 18 rfl dX11_flaw_15 fl_X11_97 (by first | assumption | exact zm_o0 | exact zm_o _ _ _ rfl) ?_
    rw [zu_k _ _ (by omega)]
    refine zw_puti 21 rfl dX11_flaw_18 fp_X11_100 (by first | assumption | exact zm_o0 | exact zm_o _ _ _ rfl) ?_
    exact zw_vretR dX11_flaw_21 rfl rfl
  · exfalso; omega
theorem m_goOnF {G : zG} {C : Nat} {σ τ : zSt} (h : 1 ≤ σ C 7 ∧ σ C 7 ≤ 4) : zC G M_X11_goOn [.ref C] (zmS C, σ, τ) (zR none (zmS C, σ, τ)) := by
  refine zC_of 0 rfl (Nat.le_of_ble_eq_true rfl) ?_
  refine zw_aload_n 1 rfl dX11_goOn_0 rfl ?_
  refine zw_geti 4 rfl dX11_goOn_1 fl_X11_94 (by first | assumption | exact zm_o0 | exact zm_o _ _ _ rfl) ?_
  refine zw_if_le 8 7 rfl dX11_goOn_4 (by decide) (by omega) (fun h_4 => ?_) (fun h_4 => ?_)
  · exfalso; omega
  · exact zw_vretR dX11_goOn_7 rfl rfl
theorem m_isLetterAt {G : zG} {C : Nat} {σ τ : zSt} {n k : Nat} (h5 : σ C 5 = n) (hk : k ≤ n) (hn : n ≤ 700) (hr : ∀ i, i < n → 0 ≤ σ (C + 1) i ∧ σ (C + 1) i ≤ 255) : zC G M_X11_isLetterAt [.ref C, vi (k : Int)] (zmS C, σ, τ) (zR (some (vi (zb (k < n ∧ 97 ≤ σ (C + 1) k ∧ σ (C + 1) k ≤ 122)))) (zmS C, σ, τ)) := by
  refine zC_of 0 rfl (Nat.le_of_ble_eq_true rfl) ?_
  refine zw_iload_n 1 rfl dX11_isLetterAt_0 rfl ?_
  refine zw_aload_n 2 rfl dX11_isLetterAt_1 rfl ?_
  refine zw_geti 5 rfl dX11_isLetterAt_2 fl_X11_103 (by first | assumption | exact zm_o0 | exact zm_o _ _ _ rfl) ?_
  rw [h5]
  refine zw_icmp_ge 28 8 rfl dX11_isLetterAt_5 (by decide) (by omega) (by omega) (fun h_5 => ?_) (fun h_5 => ?_)
  · refine zw_iconst 29 rfl dX11_isLetterAt_28 ?_
    exact zw_zretR dX11_isLetterAt_29 rfl (by omega) (by first | exact zb_f (fun q => by omega) | exact zb_f (fun q => h_21 q.2) | exact zb_t ⟨by omega, h_21⟩) rfl
  · refine zw_aload_n 9 rfl dX11_isLetterAt_8 rfl ?_
    refine zw_getr 12 rfl dX11_isLetterAt_9 fl_X11_13 (by first | assumption | exact zm_o0 | exact zm_o _ _ _ rfl) (by first | assumption | exact zm_f _ _ rfl) ?_
    refine zw_iload_n 13 rfl dX11_isLetterAt_12 rfl ?_
    refine zw_iald 14 rfl dX11_isLetterAt_13 (by first | assumption | exact zm_o0 | exact zm_o _ _ _ rfl) (by omega) (by omega) ?_
    rw [Int.toNat_natCast]
    refine zw_bipush 16 rfl dX11_isLetterAt_14 rfl ?_
    refine zw_bipush 18 rfl dX11_isLetterAt_16 rfl ?_
    refine zw_cSi3 21 rfl dX11_isLetterAt_18 kX11_isLetterAt_106 (Nat.le_of_ble_eq_true rfl) (m_in (by have := hr k (by omega); omega) (by omega) (by omega)) ?_
    refine zw_if_eqB 28 24 rfl dX11_isLetterAt_21 (by decide) (fun h_21 => ?_) (fun h_21 => ?_)
    · refine zw_iconst 29 rfl dX11_isLetterAt_28 ?_
      exact zw_zretR dX11_isLetterAt_29 rfl (by omega) (by first | exact zb_f (fun q => by omega) | exact zb_f (fun q => h_21 q.2) | exact zb_t ⟨by omega, h_21⟩) rfl
    · refine zw_iconst 25 rfl dX11_isLetterAt_24 ?_
      refine zw_goto 29 dX11_isLetterAt_25 (by decide) ?_
      exact zw_zretR dX11_isLetterAt_29 rfl (by omega) (by first | exact zb_f (fun q => by omega) | exact zb_f (fun q => h_21 q.2) | exact zb_t ⟨by omega, h_21⟩) rfl
theorem m_goOn {G : zG} {C : Nat} {σ τ : zSt} {n p : Nat} (h5 : σ C 5 = n) (h6 : σ C 6 = p) (h7 : σ C 7 = 0) (hp : p ≤ n) (hn : n ≤ 700) (hr : ∀ i, i < n → 0 ≤ σ (C + 1) i ∧ σ (C + 1) i ≤ 255) : zC G M_X11_goOn [.ref C] (zmS C, σ, τ) (fun v w => v = none ∧ ∃ σ' : zSt, w = (zmS C, σ', τ) ∧ (∀ b j, ¬ (b = C ∧ (j = 6 ∨ j = 9 ∨ j = 10 ∨ j = 11)) → σ' b j = σ b j) ∧ mTok C (zTk (σ (C + 1)) n p) σ') := by
  refine zC_of 0 rfl (Nat.le_of_ble_eq_true rfl) ?_
  have hs := zsp_r (σ (C + 1)) n (n - p) p hp
  unfold zTk
  generalize hS : zsp (σ (C + 1)) n (n - p) p = s at *
  have he := zle_r (σ (C + 1)) n (n - s) s hs.2
  generalize hE : zle (σ (C + 1)) n (n - s) s = e at *
  generalize hK : (if s < e then (s, e, (if e - s ≤ 16 then 1 else 4), e - s) else if n ≤ s then (s, s, 0, 0) else (s, s + 1, (if σ (C + 1) s = 47 then 2 else if σ (C + 1) s = 59 then 3 else 4), 0) : zTok) = K
  -- behind the letters
  have L108 : ∀ σs : zSt, s < e → (∀ b j, ¬ (b = C ∧ (j = 6 ∨ j = 9 ∨ j = 10 ∨ j = 11)) → σs b j = σ b j) → σs C 6 = e → σs C 10 = s → zW G M_X11_goOn (fun v w => v = none ∧ ∃ σ' : zSt, w = (zmS C, σ', τ) ∧ (∀ b j, ¬ (b = C ∧ (j = 6 ∨ j = 9 ∨ j = 10 ∨ j = 11)) → σ' b j = σ b j) ∧ mTok C K σ') 108 [some (.ref C)] [] (zmS C, σs, τ) := by
    intro σs hse f1 f6 f10
    rw [if_pos hse] at hK
    refine zw_aload_n 109 rfl dX11_goOn_108 rfl ?_
    refine zw_aload_n 110 rfl dX11_goOn_109 rfl ?_
    refine zw_geti 113 rfl dX11_goOn_110 fl_X11_110 (by first | assumption | exact zm_o0 | exact zm_o _ _ _ rfl) ?_
    rw [f6]
    refine zw_aload_n 114 rfl dX11_goOn_113 rfl ?_
    refine zw_geti 117 rfl dX11_goOn_114 fl_X11_97 (by first | assumption | exact zm_o0 | exact zm_o _ _ _ rfl) ?_
    rw [f10]
    refine zw_isub 118 rfl dX11_goOn_117 ?_
    refine zw_bipush 120 rfl dX11_goOn_118 rfl ?_
    refine zw_icmp_le 127 123 rfl dX11_goOn_120 (by decide) (by omega) (by omega) (fun h_120 => ?_) (fun h_120 => ?_)
    · refine zw_iconst 128 rfl dX11_goOn_127 ?_
      refine zw_puti 131 rfl dX11_goOn_128 fp_X11_113 (by first | assumption | exact zm_o0 | exact zm_o _ _ _ rfl) ?_
      refine zw_goto 184 dX11_goOn_131 (by decide) ?_
      refine zw_vret (st := []) dX11_goOn_184 rfl ⟨rfl, _, rfl, fun b j hb => by rw [zu_ne _ _ (by omega)]; exact f1 b j hb, ?_⟩
      rw [← hK]
      unfold mTok
      rw [zu_k _ _ (by omega), zu_k _ _ (by omega), zu_eq]
      refine ⟨f10, f6, ?_⟩
      dsimp only
      first
      | (rw [if_pos (by omega)]; exact Or.inr (Or.inl ⟨rfl, rfl⟩))
      | (rw [if_neg (by omega)]; exact Or.inr (Or.inr (Or.inr (Or.inr ⟨rfl, rfl⟩))))
    · refine zw_iconst 124 rfl dX11_goOn_123 ?_
      refine zw_goto 128 dX11_goOn_124 (by decide) ?_
      refine zw_puti 131 rfl dX11_goOn_128 fp_X11_113 (by first | assumption | exact zm_o0 | exact zm_o _ _ _ rfl) ?_
      refine zw_goto 184 dX11_goOn_131 (by decide) ?_
      refine zw_vret (st := []) dX11_goOn_184 rfl ⟨rfl, _, rfl, fun b j hb => by rw [zu_ne _ _ (by omega)]; exact f1 b j hb, ?_⟩
      rw [← hK]
      unfold mTok
      rw [zu_k _ _ (by omega), zu_k _ _ (by omega), zu_eq]
      refine ⟨f10, f6, ?_⟩
      dsimp only
      first
      | (rw [if_pos (by omega)]; exact Or.inr (Or.inl ⟨rfl, rfl⟩))
      | (rw [if_neg (by omega)]; exact Or.inr (Or.inr (Or.inr (Or.inr ⟨rfl, rfl⟩))))
  have letters : ∀ (f q : Nat) (σs : zSt), f + q = n → s ≤ q → s < e → zle (σ (C + 1)) n f q = e → (∀ b j, ¬ (b = C ∧ (j = 6 ∨ j = 9 ∨ j = 10 ∨ j = 11)) → σs b j = σ b j) → σs C 6 = q → σs C 10 = s → zW G M_X11_goOn (fun v w => v = none ∧ ∃ σ' : zSt, w = (zmS C, σ', τ) ∧ (∀ b j, ¬ (b = C ∧ (j = 6 ∨ j = 9 ∨ j = 10 ∨ j = 11)) → σ' b j = σ b j) ∧ mTok C K σ') 84 [some (.ref C)] [] (zmS C, σs, τ) := by
    intro f
    have st : ∀ σs : zSt, (∀ b j, ¬ (b = C ∧ (j = 6 ∨ j = 9 ∨ j = 10 ∨ j = 11)) → σs b j = σ b j) → σs C 5 = n ∧ σs (C + 1) = σ (C + 1) := fun σs f1 => ⟨by rw [f1 _ _ (by omega)]; exact h5, funext fun j => f1 _ _ (by omega)⟩
    induction f with
    | zero =>
      intro q σs hq hsq hse hz f1 f6 f10
      have hz : q = e := hz
      have st := st σs f1
      refine zw_aload_n 85 rfl dX11_goOn_84 rfl ?_
      refine zw_aload_n 86 rfl dX11_goOn_85 rfl ?_
      refine zw_geti 89 rfl dX11_goOn_86 fl_X11_110 (by first | assumption | exact zm_o0 | exact zm_o _ _ _ rfl) ?_
      rw [f6]
      refine zw_cVi1 92 rfl dX11_goOn_89 kX11_goOn_116 (Nat.le_of_ble_eq_true rfl) (by first | assumption | exact zm_o0 | exact zm_o _ _ _ rfl) (m_isLetterAt st.1 (k := q) (by omega) hn (by rw [st.2]; exact hr)) ?_
      refine zw_if_eqB 108 95 rfl dX11_goOn_92 (by decide) (fun h_92 => ?_) (fun h_92 => ?_)
      · exact L108 σs hse f1 (by rw [f6, hz]) f10
      · exfalso; omega
    | succ f ih =>
      intro q σs hq hsq hse hz f1 f6 f10
      have st := st σs f1
      simp only [zle] at hz
      refine zw_aload_n 85 rfl dX11_goOn_84 rfl ?_
      refine zw_aload_n 86 rfl dX11_goOn_85 rfl ?_
      refine zw_geti 89 rfl dX11_goOn_86 fl_X11_110 (by first | assumption | exact zm_o0 | exact zm_o _ _ _ rfl) ?_
      rw [f6]
      refine zw_cVi1 92 rfl dX11_goOn_89 kX11_goOn_116 (Nat.le_of_ble_eq_true rfl) (by first | assumption | exact zm_o0 | exact zm_o _ _ _ rfl) (m_isLetterAt st.1 (k := q) (by omega) hn (by rw [st.2]; exact hr)) ?_
      refine zw_if_eqB 108 95 rfl dX11_goOn_92 (by decide) (fun h_92 => ?_) (fun h_92 => ?_)
      · rw [st.2] at h_92
        rw [if_neg h_92] at hz
        exact L108 σs hse f1 (by rw [f6, hz]) f10
      · refine zw_aload_n 96 rfl dX11_goOn_95 rfl ?_
        refine zw_dup 97 rfl dX11_goOn_96 rfl ?_
        refine zw_geti 100 rfl dX11_goOn_97 fl_X11_110 (by first | assumption | exact zm_o0 | exact zm_o _ _ _ rfl) ?_
        rw [f6]
        refine zw_iconst 101 rfl dX11_goOn_100 ?_
        refine zw_iadd 102 rfl dX11_goOn_101 ?_
        refine zw_puti 105 rfl dX11_goOn_102 fp_X11_110 (by first | assumption | exact zm_o0 | exact zm_o _ _ _ rfl) ?_
        refine zw_goto 84 dX11_goOn_105 (by decide) ?_
        rw [st.2] at h_92
        rw [if_pos h_92] at hz
        refine ih (q + 1) _ (by omega) (by omega) hse hz (fun b j hb => by rw [zu_ne _ _ (by omega)]; exact f1 b j hb) ?_ ?_
        · rw [zu_eq]; rfl
        · rw [zu_k _ _ (by omega)]; exact f10
  -- behind the spaces
  have L46 : ∀ σs : zSt, (∀ b j, ¬ (b = C ∧ (j = 6 ∨ j = 9 ∨ j = 10 ∨ j = 11)) → σs b j = σ b j) → σs C 6 = s → zW G M_X11_goOn (fun v w => v = none ∧ ∃ σ' : zSt, w = (zmS C, σ', τ) ∧ (∀ b j, ¬ (b = C ∧ (j = 6 ∨ j = 9 ∨ j = 10 ∨ j = 11)) → σ' b j = σ b j) ∧ mTok C K σ') 46 [some (.ref C)] [] (zmS C, σs, τ) := by
    intro σs f1 f6
    have s5 : σs C 5 = n := by rw [f1 _ _ (by omega)]; exact h5
    have s1 : σs (C + 1) = σ (C + 1) := funext fun j => f1 _ _ (by omega)
    have fr : ∀ v b j, ¬ (b = C ∧ (j = 6 ∨ j = 9 ∨ j = 10 ∨ j = 11)) → zu σs C 10 v b j = σ b j := fun v b j hb => by rw [zu_ne _ _ (by omega)]; exact f1 b j hb
    have lo : s < e ↔ (s < n ∧ 97 ≤ σ (C + 1) s ∧ σ (C + 1) s ≤ 122) := by
      constructor
      · intro q
        refine ⟨by omega, zle_l (n - s) s s (Nat.le_refl _) (by rw [hE]; exact q)⟩
      · intro q
        rw [← hE, show n - s = (n - s - 1) + 1 by omega]
        simp only [zle]
        rw [if_pos q]
        have := zle_r (σ (C + 1)) n (n - s - 1) (s + 1) (by omega)
        omega
    refine zw_aload_n 47 rfl dX11_goOn_46 rfl ?_
    refine zw_aload_n 48 rfl dX11_goOn_47 rfl ?_
    refine zw_geti 51 rfl dX11_goOn_48 fl_X11_110 (by first | assumption | exact zm_o0 | exact zm_o _ _ _ rfl) ?_
    rw [f6]
    refine zw_puti 54 rfl dX11_goOn_51 fp_X11_97 (by first | assumption | exact zm_o0 | exact zm_o _ _ _ rfl) ?_
    refine zw_aload_n 55 rfl dX11_goOn_54 rfl ?_
    refine zw_geti 58 rfl dX11_goOn_55 fl_X11_110 (by first | assumption | exact zm_o0 | exact zm_o _ _ _ rfl) ?_
    rw [zu_k _ _ (by omega), f6]
    refine zw_aload_n 59 rfl dX11_goOn_58 rfl ?_
    refine zw_geti 62 rfl dX11_goOn_59 fl_X11_103 (by first | assumption | exact zm_o0 | exact zm_o _ _ _ rfl) ?_
    rw [zu_k _ _ (by omega), s5]
    refine zw_icmp_ne 73 65 rfl dX11_goOn_62 (by decide) (by omega) (by omega) (fun h_62 => ?_) (fun h_62 => ?_)
    · refine zw_aload_n 74 rfl dX11_goOn_73 rfl ?_
      refine zw_aload_n 75 rfl dX11_goOn_74 rfl ?_
      refine zw_geti 78 rfl dX11_goOn_75 fl_X11_110 (by first | assumption | exact zm_o0 | exact zm_o _ _ _ rfl) ?_
      rw [zu_k _ _ (by omega), f6]
      refine zw_cVi1 81 rfl dX11_goOn_78 kX11_goOn_116 (Nat.le_of_ble_eq_true rfl) (by first | assumption | exact zm_o0 | exact zm_o _ _ _ rfl) (m_isLetterAt (n := n) (k := s) (by rw [zu_k _ _ (by omega)]; exact s5) (by omega) hn (by rw [zu_row _ _ (by omega), s1]; exact hr)) ?_
      refine zw_if_eqB 134 84 rfl dX11_goOn_81 (by decide) (fun h_81 => ?_) (fun h_81 => ?_)
      · rw [zu_row _ _ (by omega), s1] at h_81
        refine zw_aload_n 135 rfl dX11_goOn_134 rfl ?_
        refine zw_aload_n 136 rfl dX11_goOn_135 rfl ?_
        refine zw_getr 139 rfl dX11_goOn_136 fl_X11_13 (by first | assumption | exact zm_o0 | exact zm_o _ _ _ rfl) (by first | assumption | exact zm_f _ _ rfl) ?_
        refine zw_aload_n 140 rfl dX11_goOn_139 rfl ?_
        refine zw_geti 143 rfl dX11_goOn_140 fl_X11_110 (by first | assumption | exact zm_o0 | exact zm_o _ _ _ rfl) ?_
        rw [zu_k _ _ (by omega), f6]
        refine zw_iald 144 rfl dX11_goOn_143 (by first | assumption | exact zm_o0 | exact zm_o _ _ _ rfl) (by omega) (by omega) ?_
        rw [zu_a _ _ (by omega), Int.toNat_natCast, s1]
        have hrs := hr s (by omega)
        refine zw_puti 147 rfl dX11_goOn_144 fp_X11_120 (by first | assumption | exact zm_o0 | exact zm_o _ _ _ rfl) ?_
        refine zw_aload_n 148 rfl dX11_goOn_147 rfl ?_
        refine zw_aload_n 149 rfl dX11_goOn_148 rfl ?_
        refine zw_geti 152 rfl dX11_goOn_149 fl_X11_120 (by first | assumption | exact zm_o0 | exact zm_o _ _ _ rfl) ?_
        rw [zu_eq]
        refine zw_bipush 154 rfl dX11_goOn_152 rfl ?_
        refine zw_icmp_eq 166 157 rfl dX11_goOn_154 (by decide) (by omega) (by omega) (fun h_154 => ?_) (fun h_154 => ?_)
        · refine zw_iconst 167 rfl dX11_goOn_166 ?_
          refine zw_goto 171 dX11_goOn_167 (by decide) ?_
          refine zw_puti 174 rfl dX11_goOn_171 fp_X11_113 (by first | assumption | exact zm_o0 | exact zm_o _ _ _ rfl) ?_
          refine zw_aload_n 175 rfl dX11_goOn_174 rfl ?_
          refine zw_dup 176 rfl dX11_goOn_175 rfl ?_
          refine zw_geti 179 rfl dX11_goOn_176 fl_X11_110 (by first | assumption | exact zm_o0 | exact zm_o _ _ _ rfl) ?_
          rw [zu_k _ _ (by omega), zu_k _ _ (by omega), zu_k _ _ (by omega), f6]
          refine zw_iconst 180 rfl dX11_goOn_179 ?_
          refine zw_iadd 181 rfl dX11_goOn_180 ?_
          refine zw_puti 184 rfl dX11_goOn_181 fp_X11_110 (by first | assumption | exact zm_o0 | exact zm_o _ _ _ rfl) ?_
          first
          | (rw [if_neg (by omega), if_pos (by omega)] at hK
             refine zw_vret (st := []) dX11_goOn_184 rfl ⟨rfl, _, rfl, fun b j hb => by rw [zu_ne _ _ (by omega)]; exact fr _ b j hb, ?_⟩
             rw [← hK]
             unfold mTok
             rw [zu_k _ _ (by omega), zu_eq, zu_k _ _ (by omega), zu_k _ _ (by omega), zu_eq]
             exact ⟨rfl, f6, Or.inl ⟨rfl, rfl⟩⟩)
          | (rw [if_neg (fun q => h_81 (lo.mp q)), if_neg (by omega)] at hK
             refine zw_vret (st := []) dX11_goOn_184 rfl ⟨rfl, _, rfl, fun b j hb => by rw [zu_ne _ _ (by omega), zu_ne _ _ (by omega), zu_ne _ _ (by omega)]; exact fr _ b j hb, ?_⟩
             rw [← hK]
             unfold mTok
             refine ⟨?_, ?_, ?_⟩
             · rw [zu_k _ _ (by omega), zu_k _ _ (by omega), zu_k _ _ (by omega), zu_eq]
             · rw [zu_eq]; rfl
             · rw [zu_k _ _ (by omega), zu_eq, zu_k _ _ (by omega), zu_k _ _ (by omega), zu_eq]
               dsimp only
               (repeat' split) <;> omega)
        · refine zw_aload_n 158 rfl dX11_goOn_157 rfl ?_
          refine zw_geti 161 rfl dX11_goOn_158 fl_X11_120 (by first | assumption | exact zm_o0 | exact zm_o _ _ _ rfl) ?_
          rw [zu_eq]
          refine zw_bipush 163 rfl dX11_goOn_161 rfl ?_
          refine zw_icmp_ne 170 166 rfl dX11_goOn_163 (by decide) (by omega) (by omega) (fun h_163 => ?_) (fun h_163 => ?_)
          · refine zw_iconst 171 rfl dX11_goOn_170 ?_
            refine zw_puti 174 rfl dX11_goOn_171 fp_X11_113 (by first | assumption | exact zm_o0 | exact zm_o _ _ _ rfl) ?_
            refine zw_aload_n 175 rfl dX11_goOn_174 rfl ?_
            refine zw_dup 176 rfl dX11_goOn_175 rfl ?_
            refine zw_geti 179 rfl dX11_goOn_176 fl_X11_110 (by first | assumption | exact zm_o0 | exact zm_o _ _ _ rfl) ?_
            rw [zu_k _ _ (by omega), zu_k _ _ (by omega), zu_k _ _ (by omega), f6]
            refine zw_iconst 180 rfl dX11_goOn_179 ?_
            refine zw_iadd 181 rfl dX11_goOn_180 ?_
            refine zw_puti 184 rfl dX11_goOn_181 fp_X11_110 (by first | assumption | exact zm_o0 | exact zm_o _ _ _ rfl) ?_
            first
            | (rw [if_neg (by omega), if_pos (by omega)] at hK
               refine zw_vret (st := []) dX11_goOn_184 rfl ⟨rfl, _, rfl, fun b j hb => by rw [zu_ne _ _ (by omega)]; exact fr _ b j hb, ?_⟩
               rw [← hK]
               unfold mTok
               rw [zu_k _ _ (by omega), zu_eq, zu_k _ _ (by omega), zu_k _ _ (by omega), zu_eq]
               exact ⟨rfl, f6, Or.inl ⟨rfl, rfl⟩⟩)
            | (rw [if_neg (fun q => h_81 (lo.mp q)), if_neg (by omega)] at hK
               refine zw_vret (st := []) dX11_goOn_184 rfl ⟨rfl, _, rfl, fun b j hb => by rw [zu_ne _ _ (by omega), zu_ne _ _ (by omega), zu_ne _ _ (by omega)]; exact fr _ b j hb, ?_⟩
               rw [← hK]
               unfold mTok
               refine ⟨?_, ?_, ?_⟩
               · rw [zu_k _ _ (by omega), zu_k _ _ (by omega), zu_k _ _ (by omega), zu_eq]
               · rw [zu_eq]; rfl
               · rw [zu_k _ _ (by omega), zu_eq, zu_k _ _ (by omega), zu_k _ _ (by omega), zu_eq]
                 dsimp only
                 (repeat' split) <;> omega)
          · refine zw_iconst 167 rfl dX11_goOn_166 ?_
            refine zw_goto 171 dX11_goOn_167 (by decide) ?_
            refine zw_puti 174 rfl dX11_goOn_171 fp_X11_113 (by first | assumption | exact zm_o0 | exact zm_o _ _ _ rfl) ?_
            refine zw_aload_n 175 rfl dX11_goOn_174 rfl ?_
            refine zw_dup 176 rfl dX11_goOn_175 rfl ?_
            refine zw_geti 179 rfl dX11_goOn_176 fl_X11_110 (by first | assumption | exact zm_o0 | exact zm_o _ _ _ rfl) ?_
            rw [zu_k _ _ (by omega), zu_k _ _ (by omega), zu_k _ _ (by omega), f6]
            refine zw_iconst 180 rfl dX11_goOn_179 ?_
            refine zw_iadd 181 rfl dX11_goOn_180 ?_
            refine zw_puti 184 rfl dX11_goOn_181 fp_X11_110 (by first | assumption | exact zm_o0 | exact zm_o _ _ _ rfl) ?_
            first
            | (rw [if_neg (by omega), if_pos (by omega)] at hK
               refine zw_vret (st := []) dX11_goOn_184 rfl ⟨rfl, _, rfl, fun b j hb => by rw [zu_ne _ _ (by omega)]; exact fr _ b j hb, ?_⟩
               rw [← hK]
               unfold mTok
               rw [zu_k _ _ (by omega), zu_eq, zu_k _ _ (by omega), zu_k _ _ (by omega), zu_eq]
               exact ⟨rfl, f6, Or.inl ⟨rfl, rfl⟩⟩)
            | (rw [if_neg (fun q => h_81 (lo.mp q)), if_neg (by omega)] at hK
               refine zw_vret (st := []) dX11_goOn_184 rfl ⟨rfl, _, rfl, fun b j hb => by rw [zu_ne _ _ (by omega), zu_ne _ _ (by omega), zu_ne _ _ (by omega)]; exact fr _ b j hb, ?_⟩
               rw [← hK]
               unfold mTok
               refine ⟨?_, ?_, ?_⟩
               · rw [zu_k _ _ (by omega), zu_k _ _ (by omega), zu_k _ _ (by omega), zu_eq]
               · rw [zu_eq]; rfl
               · rw [zu_k _ _ (by omega), zu_eq, zu_k _ _ (by omega), zu_k _ _ (by omega), zu_eq]
                 dsimp only
                 (repeat' split) <;> omega)
      · rw [zu_row _ _ (by omega), s1] at h_81
        exact letters (n - s) s _ (by omega) (Nat.le_refl _) (lo.mpr h_81) hE (fr _) (by rw [zu_k _ _ (by omega)]; exact f6) (zu_eq _ _ _ _)
    · refine zw_aload_n 66 rfl dX11_goOn_65 rfl ?_
      refine zw_iconst 67 rfl dX11_goOn_66 ?_
      refine zw_puti 70 rfl dX11_goOn_67 fp_X11_113 (by first | assumption | exact zm_o0 | exact zm_o _ _ _ rfl) ?_
      refine zw_goto 184 dX11_goOn_70 (by decide) ?_
      first
      | (rw [if_neg (by omega), if_pos (by omega)] at hK
         refine zw_vret (st := []) dX11_goOn_184 rfl ⟨rfl, _, rfl, fun b j hb => by rw [zu_ne _ _ (by omega)]; exact fr _ b j hb, ?_⟩
         rw [← hK]
         unfold mTok
         rw [zu_k _ _ (by omega), zu_eq, zu_k _ _ (by omega), zu_k _ _ (by omega), zu_eq]
         exact ⟨rfl, f6, Or.inl ⟨rfl, rfl⟩⟩)
      | (rw [if_neg (fun q => h_81 (lo.mp q)), if_neg (by omega)] at hK
         refine zw_vret (st := []) dX11_goOn_184 rfl ⟨rfl, _, rfl, fun b j hb => by rw [zu_ne _ _ (by omega), zu_ne _ _ (by omega), zu_ne _ _ (by omega)]; exact fr _ b j hb, ?_⟩
         rw [← hK]
         unfold mTok
         refine ⟨?_, ?_, ?_⟩
         · rw [zu_k _ _ (by omega), zu_k _ _ (by omega), zu_k _ _ (by omega), zu_eq]
         · rw [zu_eq]; rfl
         · rw [zu_k _ _ (by omega), zu_eq, zu_k _ _ (by omega), zu_k _ _ (by omega), zu_eq]
           dsimp only
           (repeat' split) <;> omega)
  have spaces : ∀ (f q : Nat) (σs : zSt), f + q = n → zsp (σ (C + 1)) n f q = s → (∀ b j, ¬ (b = C ∧ (j = 6 ∨ j = 9 ∨ j = 10 ∨ j = 11)) → σs b j = σ b j) → σs C 6 = q → zW G M_X11_goOn (fun v w => v = none ∧ ∃ σ' : zSt, w = (zmS C, σ', τ) ∧ (∀ b j, ¬ (b = C ∧ (j = 6 ∨ j = 9 ∨ j = 10 ∨ j = 11)) → σ' b j = σ b j) ∧ mTok C K σ') 8 [some (.ref C)] [] (zmS C, σs, τ) := by
    intro f
    induction f with
    | zero =>
      intro q σs hq hz f1 f6
      have hz : q = s := hz
      have s5 : σs C 5 = n := by rw [f1 _ _ (by omega)]; exact h5
      refine zw_aload_n 9 rfl dX11_goOn_8 rfl ?_
      refine zw_geti 12 rfl dX11_goOn_9 fl_X11_110 (by first | assumption | exact zm_o0 | exact zm_o _ _ _ rfl) ?_
      rw [f6]
      refine zw_aload_n 13 rfl dX11_goOn_12 rfl ?_
      refine zw_geti 16 rfl dX11_goOn_13 fl_X11_103 (by first | assumption | exact zm_o0 | exact zm_o _ _ _ rfl) ?_
      rw [s5]
      refine zw_icmp_ge 46 19 rfl dX11_goOn_16 (by decide) (by omega) (by omega) (fun h_16 => ?_) (fun h_16 => ?_)
      · exact L46 σs f1 (by rw [f6, hz])
      · exfalso; omega
    | succ f ih =>
      intro q σs hq hz f1 f6
      have s5 : σs C 5 = n := by rw [f1 _ _ (by omega)]; exact h5
      have s1 : σs (C + 1) = σ (C + 1) := funext fun j => f1 _ _ (by omega)
      have hrs := hr q (by omega)
      simp only [zsp] at hz
      refine zw_aload_n 9 rfl dX11_goOn_8 rfl ?_
      refine zw_geti 12 rfl dX11_goOn_9 fl_X11_110 (by first | assumption | exact zm_o0 | exact zm_o _ _ _ rfl) ?_
      rw [f6]
      refine zw_aload_n 13 rfl dX11_goOn_12 rfl ?_
      refine zw_geti 16 rfl dX11_goOn_13 fl_X11_103 (by first | assumption | exact zm_o0 | exact zm_o _ _ _ rfl) ?_
      rw [s5]
      refine zw_icmp_ge 46 19 rfl dX11_goOn_16 (by decide) (by omega) (by omega) (fun h_16 => ?_) (fun h_16 => ?_)
      · first
        | (exfalso; omega)
        | (rw [if_neg (by omega)] at hz
           exact L46 σs f1 (by rw [f6, hz]))
      · refine zw_aload_n 20 rfl dX11_goOn_19 rfl ?_
        refine zw_getr 23 rfl dX11_goOn_20 fl_X11_13 (by first | assumption | exact zm_o0 | exact zm_o _ _ _ rfl) (by first | assumption | exact zm_f _ _ rfl) ?_
        refine zw_aload_n 24 rfl dX11_goOn_23 rfl ?_
        refine zw_geti 27 rfl dX11_goOn_24 fl_X11_110 (by first | assumption | exact zm_o0 | exact zm_o _ _ _ rfl) ?_
        rw [f6]
        refine zw_iald 28 rfl dX11_goOn_27 (by first | assumption | exact zm_o0 | exact zm_o _ _ _ rfl) (by omega) (by omega) ?_
        rw [Int.toNat_natCast, s1]
        refine zw_bipush 30 rfl dX11_goOn_28 rfl ?_
        refine zw_icmp_ne 46 33 rfl dX11_goOn_30 (by decide) (by omega) (by omega) (fun h_30 => ?_) (fun h_30 => ?_)
        · first
          | (exfalso; omega)
          | (rw [if_neg (by omega)] at hz
             exact L46 σs f1 (by rw [f6, hz]))
        · refine zw_aload_n 34 rfl dX11_goOn_33 rfl ?_
          refine zw_dup 35 rfl dX11_goOn_34 rfl ?_
          refine zw_geti 38 rfl dX11_goOn_35 fl_X11_110 (by first | assumption | exact zm_o0 | exact zm_o _ _ _ rfl) ?_
          rw [f6]
          refine zw_iconst 39 rfl dX11_goOn_38 ?_
          refine zw_iadd 40 rfl dX11_goOn_39 ?_
          refine zw_puti 43 rfl dX11_goOn_40 fp_X11_110 (by first | assumption | exact zm_o0 | exact zm_o _ _ _ rfl) ?_
          refine zw_goto 8 dX11_goOn_43 (by decide) ?_
          rw [if_pos (by omega)] at hz
          refine ih (q + 1) _ (by omega) hz (fun b j hb => by rw [zu_ne _ _ (by omega)]; exact f1 b j hb) ?_
          rw [zu_eq]; rfl
  refine zw_aload_n 1 rfl dX11_goOn_0 rfl ?_
  refine zw_geti 4 rfl dX11_goOn_1 fl_X11_94 (by first | assumption | exact zm_o0 | exact zm_o _ _ _ rfl) ?_
  rw [h7]
  refine zw_if_le 8 7 rfl dX11_goOn_4 (by decide) (by omega) (fun h_4 => ?_) (fun h_4 => ?_)
  · exact spaces (n - p) p σ (by omega) hS (fun _ _ _ => rfl) h6
  · exfalso; omega
theorem m_isSignF {G : zG} {C : Nat} {σ τ : zSt} {c : Int} (h : 1 ≤ σ C 7 ∧ σ C 7 ≤ 4) : zC G M_X11_isSign [.ref C, vi c] (zmS C, σ, τ) (zR (some (vi 0)) (zmS C, σ, τ)) := by
  refine zC_of 0 rfl (Nat.le_of_ble_eq_true rfl) ?_
  refine zw_aload_n 1 rfl dX11_isSign_0 rfl ?_
  refine zw_geti 4 rfl dX11_isSign_1 fl_X11_94 (by first | assumption | exact zm_o0 | exact zm_o _ _ _ rfl) ?_
  refine zw_if_ne 27 7 rfl dX11_isSign_4 (by decide) (by omega) (fun h_4 => ?_) (fun h_4 => ?_)
  · refine zw_iconst 28 rfl dX11_isSign_27 ?_
    exact zw_zretR dX11_isSign_28 rfl (by omega) rfl rfl
  · exfalso; omega
theorem m_isSign {G : zG} {C : Nat} {σ τ : zSt} {c : Int} {K : zTok} (h7 : σ C 7 = 0) (h : mTok C K σ) (hc : c = 47 ∨ c = 59) : zC G M_X11_isSign [.ref C, vi c] (zmS C, σ, τ) (zR (some (vi (zb (K.2.2.1 = if c = 47 then 2 else 3)))) (zmS C, σ, τ)) := by
  obtain ⟨h10, h6, hk⟩ := h
  refine zC_of 0 rfl (Nat.le_of_ble_eq_true rfl) ?_
  refine zw_aload_n 1 rfl dX11_isSign_0 rfl ?_
  refine zw_geti 4 rfl dX11_isSign_1 fl_X11_94 (by first | assumption | exact zm_o0 | exact zm_o _ _ _ rfl) ?_
  refine zw_if_ne 27 7 rfl dX11_isSign_4 (by decide) (by omega) (fun h_4 => ?_) (fun h_4 => ?_)
  · refine zw_iconst 28 rfl dX11_isSign_27 ?_
    exact zw_zretR dX11_isSign_28 rfl (by omega) (by first | (exfalso; omega) | (rcases hc with rfl | rfl; (first | exact zb_t (by rw [if_pos rfl]; omega) | exact zb_f (by rw [if_pos rfl]; omega)); (first | exact zb_t (by rw [if_neg (by omega)]; omega) | exact zb_f (by rw [if_neg (by omega)]; omega)))) rfl
  · refine zw_aload_n 8 rfl dX11_isSign_7 rfl ?_
    refine zw_geti 11 rfl dX11_isSign_8 fl_X11_113 (by first | assumption | exact zm_o0 | exact zm_o _ _ _ rfl) ?_
    refine zw_iconst 12 rfl dX11_isSign_11 ?_
    refine zw_icmp_ne 27 15 rfl dX11_isSign_12 (by decide) (by omega) (by omega) (fun h_12 => ?_) (fun h_12 => ?_)
    · refine zw_iconst 28 rfl dX11_isSign_27 ?_
      exact zw_zretR dX11_isSign_28 rfl (by omega) (by first | (exfalso; omega) | (rcases hc with rfl | rfl; (first | exact zb_t (by rw [if_pos rfl]; omega) | exact zb_f (by rw [if_pos rfl]; omega)); (first | exact zb_t (by rw [if_neg (by omega)]; omega) | exact zb_f (by rw [if_neg (by omega)]; omega)))) rfl
    · refine zw_aload_n 16 rfl dX11_isSign_15 rfl ?_
      refine zw_geti 19 rfl dX11_isSign_16 fl_X11_120 (by first | assumption | exact zm_o0 | exact zm_o _ _ _ rfl) ?_
      refine zw_iload_n 20 rfl dX11_isSign_19 rfl ?_
      refine zw_icmp_ne 27 23 rfl dX11_isSign_20 (by decide) (by omega) (by omega) (fun h_20 => ?_) (fun h_20 => ?_)
      · refine zw_iconst 28 rfl dX11_isSign_27 ?_
        exact zw_zretR dX11_isSign_28 rfl (by omega) (by first | (exfalso; omega) | (rcases hc with rfl | rfl; (first | exact zb_t (by rw [if_pos rfl]; omega) | exact zb_f (by rw [if_pos rfl]; omega)); (first | exact zb_t (by rw [if_neg (by omega)]; omega) | exact zb_f (by rw [if_neg (by omega)]; omega)))) rfl
      · refine zw_iconst 24 rfl dX11_isSign_23 ?_
        refine zw_goto 28 dX11_isSign_24 (by decide) ?_
        exact zw_zretR dX11_isSign_28 rfl (by omega) (by first | (exfalso; omega) | (rcases hc with rfl | rfl; (first | exact zb_t (by rw [if_pos rfl]; omega) | exact zb_f (by rw [if_pos rfl]; omega)); (first | exact zb_t (by rw [if_neg (by omega)]; omega) | exact zb_f (by rw [if_neg (by omega)]; omega)))) rfl
theorem zWo_eq {t : Nat → Int} {a b k l : Nat} : zWo t a k = zWo t b l ↔ k = l ∧ ∀ i, i < k → t (a + i) = t (b + i) := by
  constructor
  · intro h
    have hl : k = l := by
      have := congrArg List.length h
      unfold zWo at this
      simpa using this
    subst hl
    refine ⟨rfl, fun i hi => ?_⟩
    have e := congrArg (fun x : List Int => x.getD i 0) h
    unfold zWo at e
    simp [List.getD, hi] at e
    omega
  · rintro ⟨rfl, h⟩
    unfold zWo
    refine List.map_congr_left (fun i hi => ?_)
    rw [h i (List.mem_range.mp hi)]
theorem m_isPic {G : zG} {C : Nat} {σ τ : zSt} {K : zTok} {n : Nat} (h : mTok C K σ) (hK : K.2.2.1 = 1 → K.2.1 = K.1 + K.2.2.2 ∧ K.1 + K.2.2.2 ≤ n) (hK2 : K.1 ≤ K.2.1 ∧ K.2.1 ≤ n) (hn : n ≤ 700) (hr : ∀ i, i < n → 0 ≤ σ (C + 1) i ∧ σ (C + 1) i ≤ 255) : zC G M_X11_isPic [.ref C] (zmS C, σ, τ) (zR (some (vi (zb (K.2.2.1 = 1 ∧ zWo (σ (C + 1)) K.1 K.2.2.2 = [15, 8, 2])))) (zmS C, σ, τ)) := by
  obtain ⟨h10, h6, hk⟩ := h
  have hw : K.2.2.1 = 1 → (zWo (σ (C + 1)) K.1 K.2.2.2 = [15, 8, 2] ↔ K.2.2.2 = 3 ∧ σ (C + 1) K.1 = 112 ∧ σ (C + 1) (K.1 + 1) = 105 ∧ σ (C + 1) (K.1 + 2) = 99) := fun _ => by
    constructor
    · intro q
      have hl : K.2.2.2 = 3 := by
        have := congrArg List.length q
        unfold zWo at this
        simpa using this
      rw [hl] at q
      unfold zWo at q
      simp [List.range_succ] at q
      refine ⟨hl, by omega, by omega, by omega⟩
    · rintro ⟨q1, q2, q3, q4⟩
      rw [q1]
      unfold zWo
      simp [List.range_succ, q2, q3, q4]
  refine zC_of 0 rfl (Nat.le_of_ble_eq_true rfl) ?_
  have no : ¬ (K.2.2.1 = 1 ∧ K.2.2.2 = 3 ∧ σ (C + 1) K.1 = 112 ∧ σ (C + 1) (K.1 + 1) = 105 ∧ σ (C + 1) (K.1 + 2) = 99) → (0 : Int) = zb (K.2.2.1 = 1 ∧ zWo (σ (C + 1)) K.1 K.2.2.2 = [15, 8, 2]) := fun q => zb_f (fun u => q ⟨u.1, (hw u.1).mp u.2⟩)
  refine zw_aload_n 1 rfl dX11_isPic_0 rfl ?_
  refine zw_geti 4 rfl dX11_isPic_1 fl_X11_113 (by first | assumption | exact zm_o0 | exact zm_o _ _ _ rfl) ?_
  refine zw_iconst 5 rfl dX11_isPic_4 ?_
  refine zw_icmp_ne 71 8 rfl dX11_isPic_5 (by decide) (by omega) (by omega) (fun h_5 => ?_) (fun h_5 => ?_)
  · refine zw_iconst 72 rfl dX11_isPic_71 ?_
    exact zw_zretR dX11_isPic_72 rfl (by omega) (by first | exact no (fun q => by omega) | exact zb_t ⟨by omega, (hw (by omega)).mpr ⟨by omega, h_32, h_48, h_64⟩⟩) rfl
  · have kw := hK (by omega)
    refine zw_aload_n 9 rfl dX11_isPic_8 rfl ?_
    refine zw_geti 12 rfl dX11_isPic_9 fl_X11_110 (by first | assumption | exact zm_o0 | exact zm_o _ _ _ rfl) ?_
    rw [h6]
    refine zw_aload_n 13 rfl dX11_isPic_12 rfl ?_
    refine zw_geti 16 rfl dX11_isPic_13 fl_X11_97 (by first | assumption | exact zm_o0 | exact zm_o _ _ _ rfl) ?_
    rw [h10]
    refine zw_isub 17 rfl dX11_isPic_16 ?_
    refine zw_iconst 18 rfl dX11_isPic_17 ?_
    refine zw_icmp_ne 71 21 rfl dX11_isPic_18 (by decide) (by omega) (by omega) (fun h_18 => ?_) (fun h_18 => ?_)
    · refine zw_iconst 72 rfl dX11_isPic_71 ?_
      exact zw_zretR dX11_isPic_72 rfl (by omega) (by first | exact no (fun q => by omega) | exact zb_t ⟨by omega, (hw (by omega)).mpr ⟨by omega, h_32, h_48, h_64⟩⟩) rfl
    · refine zw_aload_n 22 rfl dX11_isPic_21 rfl ?_
      refine zw_getr 25 rfl dX11_isPic_22 fl_X11_13 (by first | assumption | exact zm_o0 | exact zm_o _ _ _ rfl) (by first | assumption | exact zm_f _ _ rfl) ?_
      refine zw_aload_n 26 rfl dX11_isPic_25 rfl ?_
      refine zw_geti 29 rfl dX11_isPic_26 fl_X11_97 (by first | assumption | exact zm_o0 | exact zm_o _ _ _ rfl) ?_
      rw [h10]
      refine zw_iald 30 rfl dX11_isPic_29 (by first | assumption | exact zm_o0 | exact zm_o _ _ _ rfl) (by omega) (by omega) ?_
      rw [Int.toNat_natCast]
      refine zw_bipush 32 rfl dX11_isPic_30 rfl ?_
      refine zw_icmp_ne 71 35 rfl dX11_isPic_32 (by decide) (by have := hr K.1 (by omega); omega) (by omega) (fun h_32 => ?_) (fun h_32 => ?_)
      · refine zw_iconst 72 rfl dX11_isPic_71 ?_
        exact zw_zretR dX11_isPic_72 rfl (by omega) (by first | exact no (fun q => by omega) | exact zb_t ⟨by omega, (hw (by omega)).mpr ⟨by omega, h_32, h_48, h_64⟩⟩) rfl
      · refine zw_aload_n 36 rfl dX11_isPic_35 rfl ?_
        refine zw_getr 39 rfl dX11_isPic_36 fl_X11_13 (by first | assumption | exact zm_o0 | exact zm_o _ _ _ rfl) (by first | assumption | exact zm_f _ _ rfl) ?_
        refine zw_aload_n 40 rfl dX11_isPic_39 rfl ?_
        refine zw_geti 43 rfl dX11_isPic_40 fl_X11_97 (by first | assumption | exact zm_o0 | exact zm_o _ _ _ rfl) ?_
        rw [h10]
        refine zw_iconst 44 rfl dX11_isPic_43 ?_
        refine zw_iadd 45 rfl dX11_isPic_44 ?_
        refine zw_iald 46 rfl dX11_isPic_45 (by first | assumption | exact zm_o0 | exact zm_o _ _ _ rfl) (by omega) (by omega) ?_
        rw [show ((K.1 : Int) + 1).toNat = K.1 + 1 by omega]
        refine zw_bipush 48 rfl dX11_isPic_46 rfl ?_
        refine zw_icmp_ne 71 51 rfl dX11_isPic_48 (by decide) (by have := hr (K.1 + 1) (by omega); omega) (by omega) (fun h_48 => ?_) (fun h_48 => ?_)
        · refine zw_iconst 72 rfl dX11_isPic_71 ?_
          exact zw_zretR dX11_isPic_72 rfl (by omega) (by first | exact no (fun q => by omega) | exact zb_t ⟨by omega, (hw (by omega)).mpr ⟨by omega, h_32, h_48, h_64⟩⟩) rfl
        · refine zw_aload_n 52 rfl dX11_isPic_51 rfl ?_
          refine zw_getr 55 rfl dX11_isPic_52 fl_X11_13 (by first | assumption | exact zm_o0 | exact zm_o _ _ _ rfl) (by first | assumption | exact zm_f _ _ rfl) ?_
          refine zw_aload_n 56 rfl dX11_isPic_55 rfl ?_
          refine zw_geti 59 rfl dX11_isPic_56 fl_X11_97 (by first | assumption | exact zm_o0 | exact zm_o _ _ _ rfl) ?_
          rw [h10]
          refine zw_iconst 60 rfl dX11_isPic_59 ?_
          refine zw_iadd 61 rfl dX11_isPic_60 ?_
          refine zw_iald 62 rfl dX11_isPic_61 (by first | assumption | exact zm_o0 | exact zm_o _ _ _ rfl) (by omega) (by omega) ?_
          rw [show ((K.1 : Int) + 2).toNat = K.1 + 2 by omega]
          refine zw_bipush 64 rfl dX11_isPic_62 rfl ?_
          refine zw_icmp_ne 71 67 rfl dX11_isPic_64 (by decide) (by have := hr (K.1 + 2) (by omega); omega) (by omega) (fun h_64 => ?_) (fun h_64 => ?_)
          · refine zw_iconst 72 rfl dX11_isPic_71 ?_
            exact zw_zretR dX11_isPic_72 rfl (by omega) (by first | exact no (fun q => by omega) | exact zb_t ⟨by omega, (hw (by omega)).mpr ⟨by omega, h_32, h_48, h_64⟩⟩) rfl
          · refine zw_iconst 68 rfl dX11_isPic_67 ?_
            refine zw_goto 72 dX11_isPic_68 (by decide) ?_
            exact zw_zretR dX11_isPic_72 rfl (by omega) (by first | exact no (fun q => by omega) | exact zb_t ⟨by omega, (hw (by omega)).mpr ⟨by omega, h_32, h_48, h_64⟩⟩) rfl
theorem m_isLike {G : zG} {C : Nat} {σ τ : zSt} {K : zTok} {n a l : Nat} {p : Int} (h : mTok C K σ) (hK : K.2.1 = K.1 + K.2.2.2 ∧ K.1 + K.2.2.2 ≤ n ∧ K.2.2.2 ≤ 16) (hp : 0 ≤ p ∧ p ≤ 3) (hpa : σ (C + 2) p.toNat = a) (hpl : σ (C + 3) p.toNat = l) (hal : a + l ≤ n ∧ l ≤ 16) (hn : n ≤ 700) (hr : ∀ i, i < n → 0 ≤ σ (C + 1) i ∧ σ (C + 1) i ≤ 255) : zC G M_X11_isLike [.ref C, vi p] (zmS C, σ, τ) (zR (some (vi (zb (zWo (σ (C + 1)) a l = zWo (σ (C + 1)) K.1 K.2.2.2)))) (zmS C, σ, τ)) := by
  obtain ⟨h10, h6, hk⟩ := h
  refine zC_of 2 rfl (Nat.le_of_ble_eq_true rfl) ?_
  have fin : ∀ (v : Int) (i : Nat), v = zb (zWo (σ (C + 1)) a l = zWo (σ (C + 1)) K.1 K.2.2.2) → zW G M_X11_isLike (zR (some (vi (zb (zWo (σ (C + 1)) a l = zWo (σ (C + 1)) K.1 K.2.2.2)))) (zmS C, σ, τ)) 79 [some (.ref C), some (vi p), some (vi v), some (vi i)] [] (zmS C, σ, τ) := by
    intro v i hv
    have := zb_01 (zWo (σ (C + 1)) a l = zWo (σ (C + 1)) K.1 K.2.2.2)
    refine zw_iload_n 80 rfl dX11_isLike_79 rfl ?_
    exact zw_zretR dX11_isLike_80 rfl (by omega) hv rfl
  have loop : ∀ (f i : Nat) (v : Int), f + i = l → v = zb (l = K.2.2.2 ∧ ∀ j, j < i → σ (C + 1) (a + j) = σ (C + 1) (K.1 + j)) → zW G M_X11_isLike (zR (some (vi (zb (zWo (σ (C + 1)) a l = zWo (σ (C + 1)) K.1 K.2.2.2)))) (zmS C, σ, τ)) 26 [some (.ref C), some (vi p), some (vi v), some (vi i)] [] (zmS C, σ, τ) := by
    intro f
    induction f with
    | zero =>
      intro i v hi hv
      have hv2 : v = zb (zWo (σ (C + 1)) a l = zWo (σ (C + 1)) K.1 K.2.2.2) := by
        rw [hv]
        refine zb_c ?_
        rw [zWo_eq, show i = l by omega]
      have hv01 : v = 0 ∨ v = 1 := by rw [hv]; exact zb_01 _
      refine zw_iload_n 27 rfl dX11_isLike_26 rfl ?_
      refine zw_if_eq 79 30 rfl dX11_isLike_27 (by decide) (by omega) (fun h_27 => ?_) (fun h_27 => ?_)
      · exact fin v i hv2
      · refine zw_iload_n 31 rfl dX11_isLike_30 rfl ?_
        refine zw_aload_n 32 rfl dX11_isLike_31 rfl ?_
        refine zw_getr 35 rfl dX11_isLike_32 fl_X11_20 (by first | assumption | exact zm_o0 | exact zm_o _ _ _ rfl) (by first | assumption | exact zm_f _ _ rfl) ?_
        refine zw_iload_n 36 rfl dX11_isLike_35 rfl ?_
        refine zw_iald 37 rfl dX11_isLike_36 (by first | assumption | exact zm_o0 | exact zm_o _ _ _ rfl) (by omega) (by omega) ?_
        rw [hpl]
        refine zw_icmp_ge 79 40 rfl dX11_isLike_37 (by decide) (by omega) (by omega) (fun h_37 => ?_) (fun h_37 => ?_)
        · exact fin v i hv2
        · exfalso; omega
    | succ f ih =>
      intro i v hi hv
      by_cases hc : l = K.2.2.2 ∧ ∀ j, j < i → σ (C + 1) (a + j) = σ (C + 1) (K.1 + j)
      · rw [← zb_t hc] at hv
        subst hv
        have r1 := hr (a + i) (by omega)
        have r2 := hr (K.1 + i) (by omega)
        refine zw_iload_n 27 rfl dX11_isLike_26 rfl ?_
        refine zw_if_eq 79 30 rfl dX11_isLike_27 (by decide) (by omega) (fun h_27 => ?_) (fun h_27 => ?_)
        · exfalso; omega
        · refine zw_iload_n 31 rfl dX11_isLike_30 rfl ?_
          refine zw_aload_n 32 rfl dX11_isLike_31 rfl ?_
          refine zw_getr 35 rfl dX11_isLike_32 fl_X11_20 (by first | assumption | exact zm_o0 | exact zm_o _ _ _ rfl) (by first | assumption | exact zm_f _ _ rfl) ?_
          refine zw_iload_n 36 rfl dX11_isLike_35 rfl ?_
          refine zw_iald 37 rfl dX11_isLike_36 (by first | assumption | exact zm_o0 | exact zm_o _ _ _ rfl) (by omega) (by omega) ?_
          rw [hpl]
          refine zw_icmp_ge 79 40 rfl dX11_isLike_37 (by decide) (by omega) (by omega) (fun h_37 => ?_) (fun h_37 => ?_)
          · exfalso; omega
          · refine zw_aload_n 41 rfl dX11_isLike_40 rfl ?_
            refine zw_getr 44 rfl dX11_isLike_41 fl_X11_13 (by first | assumption | exact zm_o0 | exact zm_o _ _ _ rfl) (by first | assumption | exact zm_f _ _ rfl) ?_
            refine zw_aload_n 45 rfl dX11_isLike_44 rfl ?_
            refine zw_getr 48 rfl dX11_isLike_45 fl_X11_17 (by first | assumption | exact zm_o0 | exact zm_o _ _ _ rfl) (by first | assumption | exact zm_f _ _ rfl) ?_
            refine zw_iload_n 49 rfl dX11_isLike_48 rfl ?_
            refine zw_iald 50 rfl dX11_isLike_49 (by first | assumption | exact zm_o0 | exact zm_o _ _ _ rfl) (by omega) (by omega) ?_
            rw [hpa]
            refine zw_iload_n 51 rfl dX11_isLike_50 rfl ?_
            refine zw_iadd 52 rfl dX11_isLike_51 ?_
            refine zw_iald 53 rfl dX11_isLike_52 (by first | assumption | exact zm_o0 | exact zm_o _ _ _ rfl) (by omega) (by omega) ?_
            rw [show ((a : Int) + (i : Int)).toNat = a + i by omega]
            refine zw_aload_n 54 rfl dX11_isLike_53 rfl ?_
            refine zw_getr 57 rfl dX11_isLike_54 fl_X11_13 (by first | assumption | exact zm_o0 | exact zm_o _ _ _ rfl) (by first | assumption | exact zm_f _ _ rfl) ?_
            refine zw_aload_n 58 rfl dX11_isLike_57 rfl ?_
            refine zw_geti 61 rfl dX11_isLike_58 fl_X11_97 (by first | assumption | exact zm_o0 | exact zm_o _ _ _ rfl) ?_
            rw [h10]
            refine zw_iload_n 62 rfl dX11_isLike_61 rfl ?_
            refine zw_iadd 63 rfl dX11_isLike_62 ?_
            refine zw_iald 64 rfl dX11_isLike_63 (by first | assumption | exact zm_o0 | exact zm_o _ _ _ rfl) (by omega) (by omega) ?_
            rw [show ((K.1 : Int) + (i : Int)).toNat = K.1 + i by omega]
            refine zw_icmp_ne 71 67 rfl dX11_isLike_64 (by decide) (by omega) (by omega) (fun h_64 => ?_) (fun h_64 => ?_)
            · refine zw_iconst 72 rfl dX11_isLike_71 ?_
              refine zw_istore_n 73 rfl dX11_isLike_72 (Nat.le_of_ble_eq_true rfl) rfl ?_
              refine zw_iinc 76 rfl dX11_isLike_73 (Nat.le_of_ble_eq_true rfl) rfl rfl ?_
              refine zw_goto 26 dX11_isLike_76 (by decide) ?_
              refine ih (i + 1) _ (by omega) ?_
              first
              | (exact zb_t ⟨hc.1, fun j hj => by by_cases q : j = i; rw [q]; exact h_64; exact hc.2 j (by omega)⟩)
              | (exact zb_f (fun u => h_64 (u.2 i (by omega))))
            · refine zw_iconst 68 rfl dX11_isLike_67 ?_
              refine zw_goto 72 dX11_isLike_68 (by decide) ?_
              refine zw_istore_n 73 rfl dX11_isLike_72 (Nat.le_of_ble_eq_true rfl) rfl ?_
              refine zw_iinc 76 rfl dX11_isLike_73 (Nat.le_of_ble_eq_true rfl) rfl rfl ?_
              refine zw_goto 26 dX11_isLike_76 (by decide) ?_
              refine ih (i + 1) _ (by omega) ?_
              first
              | (exact zb_t ⟨hc.1, fun j hj => by by_cases q : j = i; rw [q]; exact h_64; exact hc.2 j (by omega)⟩)
              | (exact zb_f (fun u => h_64 (u.2 i (by omega))))
      · have hv0 : v = 0 := by rw [hv]; exact (zb_f hc).symm
        have hv2 : v = zb (zWo (σ (C + 1)) a l = zWo (σ (C + 1)) K.1 K.2.2.2) := by
          rw [hv0]
          refine zb_f (fun u => hc ?_)
          rw [zWo_eq] at u
          exact ⟨u.1, fun j hj => u.2 j (by omega)⟩
        refine zw_iload_n 27 rfl dX11_isLike_26 rfl ?_
        refine zw_if_eq 79 30 rfl dX11_isLike_27 (by decide) (by omega) (fun h_27 => ?_) (fun h_27 => ?_)
        · exact fin v i hv2
        · exfalso; omega
  refine zw_aload_n 1 rfl dX11_isLike_0 rfl ?_
  refine zw_getr 4 rfl dX11_isLike_1 fl_X11_20 (by first | assumption | exact zm_o0 | exact zm_o _ _ _ rfl) (by first | assumption | exact zm_f _ _ rfl) ?_
  refine zw_iload_n 5 rfl dX11_isLike_4 rfl ?_
  refine zw_iald 6 rfl dX11_isLike_5 (by first | assumption | exact zm_o0 | exact zm_o _ _ _ rfl) (by omega) (by omega) ?_
  rw [hpl]
  refine zw_aload_n 7 rfl dX11_isLike_6 rfl ?_
  refine zw_geti 10 rfl dX11_isLike_7 fl_X11_110 (by first | assumption | exact zm_o0 | exact zm_o _ _ _ rfl) ?_
  rw [h6]
  refine zw_aload_n 11 rfl dX11_isLike_10 rfl ?_
  refine zw_geti 14 rfl dX11_isLike_11 fl_X11_97 (by first | assumption | exact zm_o0 | exact zm_o _ _ _ rfl) ?_
  rw [h10]
  refine zw_isub 15 rfl dX11_isLike_14 ?_
  refine zw_icmp_ne 22 18 rfl dX11_isLike_15 (by decide) (by omega) (by omega) (fun h_15 => ?_) (fun h_15 => ?_)
  · refine zw_iconst 23 rfl dX11_isLike_22 ?_
    refine zw_istore_n 24 rfl dX11_isLike_23 (Nat.le_of_ble_eq_true rfl) rfl ?_
    refine zw_iconst 25 rfl dX11_isLike_24 ?_
    refine zw_istore_n 26 rfl dX11_isLike_25 (Nat.le_of_ble_eq_true rfl) rfl ?_
    first
    | (exact loop l 0 1 (by omega) (zb_t ⟨by omega, fun j hj => absurd hj (by omega)⟩))
    | (exact loop l 0 0 (by omega) (zb_f (fun u => by have := u.1; omega)))
  · refine zw_iconst 19 rfl dX11_isLike_18 ?_
    refine zw_goto 23 dX11_isLike_19 (by decide) ?_
    refine zw_istore_n 24 rfl dX11_isLike_23 (Nat.le_of_ble_eq_true rfl) rfl ?_
    refine zw_iconst 25 rfl dX11_isLike_24 ?_
    refine zw_istore_n 26 rfl dX11_isLike_25 (Nat.le_of_ble_eq_true rfl) rfl ?_
    first
    | (exact loop l 0 1 (by omega) (zb_t ⟨by omega, fun j hj => absurd hj (by omega)⟩))
    | (exact loop l 0 0 (by omega) (zb_f (fun u => by have := u.1; omega)))
