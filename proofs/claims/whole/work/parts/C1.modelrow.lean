/-! ===== the model's reader ===== -/
def mRb (C : Nat) (σ1 : zSt) (n : Nat) (σ : zSt) : Prop := (∀ b j, ¬ (b = C ∧ ((5 ≤ j ∧ j ≤ 11) ∨ j = 19)) → ¬ (C + 2 ≤ b ∧ b ≤ C + 6) → σ b j = σ1 b j) ∧ σ C 5 = n
def mRnm (C : Nat) (t : Nat → Int) (n : Nat) (ns : List (List Int)) (σ : zSt) : Prop := ∀ p, p < ns.length → ∃ a l : Nat, σ (C + 2) p = a ∧ σ (C + 3) p = l ∧ a + l ≤ n ∧ (1 ≤ l ∧ l ≤ 16) ∧ ns.getD p [] = zWo t a l ∧ ∀ k, k < l → 97 ≤ t (a + k) ∧ t (a + k) ≤ 122
def mRpc (C : Nat) (σ : zSt) (p : Nat) (q : zPc) : Prop := σ (C + 4) p = q.1 ∧ (1 ≤ q.1 ∧ q.1 ≤ 16) ∧ σ (C + 5) p = q.2.1 ∧ (1 ≤ q.2.1 ∧ q.2.1 ≤ 12) ∧ ∀ x y : Int, 0 ≤ x ∧ x < q.1 → 0 ≤ y ∧ y < q.2.1 → σ (C + 6) (192 * p + (16 * y + x).toNat) = q.2.2 x y ∧ 0 ≤ q.2.2 x y ∧ q.2.2 x y ≤ 255
def mRdr (C : Nat) (σ1 : zSt) (n : Nat) (r : zRd) (σ : zSt) : Prop := mRb C σ1 n σ ∧ σ C 7 = 0 ∧ mTok C (zTk (σ1 (C + 1)) n r.2.1) σ ∧ r.2.1 ≤ n ∧ r.2.2.1.length ≤ 4 ∧ mRnm C (σ1 (C + 1)) n r.2.2.1 σ ∧ ∀ p, p < r.2.2.1.length → (r.1 = 2 → p + 1 < r.2.2.1.length) → mRpc C σ p (r.2.2.2 p)
def mFlt (C : Nat) (σ1 : zSt) (n : Nat) (T : Int × Int × zRd) (σ : zSt) : Prop := mRb C σ1 n σ ∧ σ C 7 = T.1 ∧ σ C 8 = T.2.1 ∧ 1 ≤ T.1 ∧ T.1 ≤ 4
/-- from r on the run comes to T -/
def mRn (t : Nat → Int) (n : Nat) (T : Int × Int × zRd) (r : zRd) : Prop := ∃ (f : Nat) (s : Int), (r.1 = 5 ∨ n - r.2.1 + 1 ≤ f) ∧ zRun t n f r s = T
theorem zTk_prog {t : Nat → Int} {n p : Nat} (hp : p ≤ n) : (zTk t n p).2.2.1 = 0 ∨ p < (zTk t n p).2.1 := by
  have hs := zsp_r t n (n - p) p hp
  unfold zTk
  split
  · right; dsimp only; omega
  · split
    · left; rfl
    · right; dsimp only; omega
theorem zStep_pos {t : Nat → Int} {r : zRd} {K : zTok} (h : (zStep t r K).1 = 0) : (zStep t r K).2.2.1 = K.2.1 ∧ ((zStep t r K).2.1 = 5 ∨ K.2.2.1 ≠ 0) := by
  unfold zStep at *
  by_cases a0 : r.1 = 0
  · rw [if_pos a0] at h ⊢
    by_cases q : K.2.2.1 = 1 ∧ zWo t K.1 K.2.2.2 = [15, 8, 2]
    · rw [if_pos q]; exact ⟨rfl, Or.inr (by rw [q.1]; omega)⟩
    · rw [if_neg q] at h; simp at h
  · rw [if_neg a0] at h ⊢
    by_cases a1 : r.1 = 1
    · rw [if_pos a1] at h ⊢
      by_cases q : K.2.2.1 = 1
      · rw [if_pos q] at h ⊢
        by_cases q2 : zWo t K.1 K.2.2.2 ∈ r.2.2.1
        · rw [if_pos q2] at h; simp at h
        · rw [if_neg q2]; exact ⟨rfl, Or.inr (by rw [q]; omega)⟩
      · rw [if_neg q] at h; simp at h
    · rw [if_neg a1] at h ⊢
      by_cases a4 : r.1 = 4
      · rw [if_pos a4] at h ⊢
        by_cases q : K.2.2.1 = 2
        · rw [if_pos q]; exact ⟨rfl, Or.inr (by rw [q]; omega)⟩
        · rw [if_neg q] at h ⊢
          by_cases q2 : K.2.2.1 = 3
          · rw [if_pos q2]; exact ⟨rfl, Or.inr (by rw [q2]; omega)⟩
          · rw [if_neg q2] at h ⊢
            by_cases q3 : K.2.2.1 = 0
            · rw [if_pos q3]; exact ⟨rfl, Or.inl rfl⟩
            · rw [if_neg q3] at h; simp at h
      · rw [if_neg a4] at h ⊢
        by_cases q : K.2.2.1 = 1
        · rw [if_pos q]; exact ⟨rfl, Or.inr (by rw [q]; omega)⟩
        · rw [if_neg q] at h; simp at h
theorem mRn.go {t : Nat → Int} {n : Nat} {T : Int × Int × zRd} {r : zRd} (h : mRn t n T r) (h5 : ¬ r.1 = 5) (hp : r.2.1 ≤ n) (h0 : (zStep t r (zTk t n r.2.1)).1 = 0) : mRn t n T (zStep t r (zTk t n r.2.1)).2 := by
  obtain ⟨f, s, hf, hr⟩ := h
  have hf : n - r.2.1 + 1 ≤ f := by rcases hf with q | q; exact absurd q h5; exact q
  obtain ⟨f, rfl⟩ : ∃ f', f = f' + 1 := ⟨f - 1, by omega⟩
  simp only [zRun] at hr
  rw [if_neg h5, if_pos h0] at hr
  refine ⟨f, _, ?_, hr⟩
  have hz := zStep_pos h0
  rcases hz.2 with q | q
  · exact Or.inl q
  · right
    have := zTk_prog (t := t) hp
    have ok := zTk_ok t (n := n) (p := r.2.1) hp
    rw [hz.1]
    omega
theorem mRn.bad {t : Nat → Int} {n : Nat} {T : Int × Int × zRd} {r : zRd} (h : mRn t n T r) (h5 : ¬ r.1 = 5) (h0 : ¬ (zStep t r (zTk t n r.2.1)).1 = 0) : T = ((zStep t r (zTk t n r.2.1)).1, ((zTk t n r.2.1).1 : Int), r) := by
  obtain ⟨f, s, hf, hr⟩ := h
  have hf : n - r.2.1 + 1 ≤ f := by rcases hf with q | q; exact absurd q h5; exact q
  obtain ⟨f, rfl⟩ : ∃ f', f = f' + 1 := ⟨f - 1, by omega⟩
  simp only [zRun] at hr
  rw [if_neg h5, if_neg h0] at hr
  exact hr.symm
theorem mRn.fin {t : Nat → Int} {n : Nat} {T : Int × Int × zRd} {r : zRd} (h : mRn t n T r) (h5 : r.1 = 5) : T.1 = 0 ∧ T.2.2 = r := by
  obtain ⟨f, s, hf, hr⟩ := h
  cases f with
  | zero => rw [← hr]; exact ⟨rfl, rfl⟩
  | succ f => simp only [zRun] at hr; rw [if_pos h5] at hr; rw [← hr]; exact ⟨rfl, rfl⟩
theorem mRb.t {C n : Nat} {σ1 σ : zSt} (h : mRb C σ1 n σ) : σ (C + 1) = σ1 (C + 1) := funext fun j => h.1 _ _ (by omega) (by omega)
theorem mRb.u {C n a k : Nat} {σ1 σ : zSt} {v : Int} (h : mRb C σ1 n σ) (hk : (a = C ∧ ((6 ≤ k ∧ k ≤ 11) ∨ k = 19)) ∨ (C + 2 ≤ a ∧ a ≤ C + 6)) : mRb C σ1 n (zu σ a k v) := ⟨fun b j h1 h2 => by rw [zu_ne _ _ (by omega)]; exact h.1 b j h1 h2, by rw [zu_ne _ _ (by omega)]; exact h.2⟩
theorem mRnm.c {C n : Nat} {t : Nat → Int} {ns : List (List Int)} {σ σ' : zSt} (h : mRnm C t n ns σ) (h2 : ∀ p, p < ns.length → σ' (C + 2) p = σ (C + 2) p ∧ σ' (C + 3) p = σ (C + 3) p) : mRnm C t n ns σ' := fun p hp => by
  obtain ⟨a, l, q1, q2, q3⟩ := h p hp
  exact ⟨a, l, (h2 p hp).1.trans q1, (h2 p hp).2.trans q2, q3⟩
theorem mRpc.c {C p : Nat} {q : zPc} {σ σ' : zSt} (h : mRpc C σ p q) (h4 : σ' (C + 4) p = σ (C + 4) p) (h5 : σ' (C + 5) p = σ (C + 5) p) (h6 : ∀ j, 192 * p ≤ j → j < 192 * p + 192 → σ' (C + 6) j = σ (C + 6) j) : mRpc C σ' p q := by
  obtain ⟨a1, a2, a3, a4, a5⟩ := h
  refine ⟨h4.trans a1, a2, h5.trans a3, a4, fun x y hx hy => ?_⟩
  rw [h6 _ (by omega) (by omega)]
  exact a5 x y hx hy
/-! ===== a row ===== -/
def mRwQ (C : Nat) (σ1 : zSt) (n : Nat) (T : Int × Int × zRd) (r : zRd) (σ τ : zSt) : Option Value → zWd → Prop := fun v w => v = none ∧ ∃ σ' : zSt, w = (zmS C, σ', τ) ∧ σ' C 19 = σ C 19 ∧ (mFlt C σ1 n T σ' ∨ ∃ r' : zRd, r'.1 = 4 ∧ r'.2.2.1 = r.2.2.1 ∧ r.2.1 < r'.2.1 ∧ mRdr C σ1 n r' σ' ∧ mRn (σ1 (C + 1)) n T r')
theorem m_readRow {G : zG} {C : Nat} {σ τ : zSt} {σ1 : zSt} {n : Nat} {T : Int × Int × zRd} {r : zRd} {p y : Int} (h : mRdr C σ1 n r σ) (hT : mRn (σ1 (C + 1)) n T r) (hn : n ≤ 700) (hr : ∀ i, i < n → 0 ≤ σ1 (C + 1) i ∧ σ1 (C + 1) i ≤ 255) (hl : 1 ≤ r.2.2.1.length) (hp : p = (r.2.2.1.length - 1 : Nat)) (hy : (r.1 = 2 ∧ y = 0) ∨ (r.1 = 3 ∧ y = (r.2.2.2 (r.2.2.1.length - 1)).2.1)) : zC G M_X11_readRow [.ref C, vi p, vi y] (zmS C, σ, τ) (mRwQ C σ1 n T r σ τ) := by
  obtain ⟨hb, h7, htk, hpn, hl4, hnm, hpc⟩ := id h
  have ok := zTk_ok (σ1 (C + 1)) (n := n) (p := r.2.1) hpn
  have hww := zTk_w (t := (σ1 (C + 1))) (n := n) (p := r.2.1)
  have h5 : ¬ r.1 = 5 := by omega
  obtain ⟨k10, k6, kk⟩ := id htk
  obtain ⟨wl, hwl⟩ : ∃ wl : Nat, wl = (zTk (σ1 (C + 1)) n r.2.1).2.2.2 := ⟨_, rfl⟩
  obtain ⟨s, hs⟩ : ∃ s : Nat, s = (zTk (σ1 (C + 1)) n r.2.1).1 := ⟨_, rfl⟩
  have e1 := hb.t
  -- the picture so far
  obtain ⟨P0, hP0⟩ : ∃ P0 : zPc, P0 = zP0 r wl := ⟨_, rfl⟩
  have hyP : y = P0.2.1 ∧ 0 ≤ y ∧ y ≤ 12 := by
    rcases hy with q | q
    · rw [hP0, zP0, if_pos q.1]; exact ⟨q.2, by omega, by omega⟩
    · have := hpc (r.2.2.1.length - 1) (by omega) (fun u => by omega)
      rw [hP0, zP0, if_neg (by omega)]; exact ⟨q.2, by have := this.2.2.2.1; omega, by have := this.2.2.2.1; omega⟩
  have hst : zStep (σ1 (C + 1)) r (zTk (σ1 (C + 1)) n r.2.1) = if (zTk (σ1 (C + 1)) n r.2.1).2.2.1 = 1 then (zRf P0 (σ1 (C + 1)) s wl, (4, (zTk (σ1 (C + 1)) n r.2.1).2.1, r.2.2.1, va_up r.2.2.2 (r.2.2.1.length - 1) (aRow P0 (σ1 (C + 1)) s wl))) else (1, r) := by
    rw [hP0, hwl, hs]
    unfold zStep
    rw [if_neg (by omega), if_neg (by omega), if_neg (by omega)]
  have fltQ : ∀ (k : Int) (σs : zSt), mRb C σ1 n σs → σs C 19 = σ C 19 → σs C 7 = k → σs C 8 = (zTk (σ1 (C + 1)) n r.2.1).1 → (1 ≤ k ∧ k ≤ 4) → (zStep (σ1 (C + 1)) r (zTk (σ1 (C + 1)) n r.2.1)).1 = k → (mRwQ C σ1 n T r σ τ) none (zmS C, σs, τ) := by
    intro k σs q1 q2 q3 q4 q5 q6
    have e := hT.bad h5 (by omega)
    refine ⟨rfl, _, rfl, q2, Or.inl ⟨q1, ?_, ?_, ?_⟩⟩
    · rw [q3, e, q6]
    · rw [q4, e]
    · rw [e]; show 1 ≤ (zStep _ _ _).1 ∧ (zStep _ _ _).1 ≤ 4; omega
  have fl : ∀ k : Int, mRb C σ1 n (zu (zu σ C 7 k) C 8 (σ C 10)) ∧ zu (zu σ C 7 k) C 8 (σ C 10) C 19 = σ C 19 ∧ zu (zu σ C 7 k) C 8 (σ C 10) C 7 = k ∧ zu (zu σ C 7 k) C 8 (σ C 10) C 8 = (zTk (σ1 (C + 1)) n r.2.1).1 := fun k => ⟨(hb.u (Or.inl (by omega))).u (Or.inl (by omega)), by rw [zu_k _ _ (by omega), zu_k _ _ (by omega)], by rw [zu_k _ _ (by omega), zu_eq], by rw [zu_eq]; exact k10⟩
  refine zC_of 3 rfl (Nat.le_of_ble_eq_true rfl) ?_
  by_cases hk1 : (zTk (σ1 (C + 1)) n r.2.1).2.2.1 = 1
  · have hk2 : σ C 9 = 2 := by omega
    have hwv := hww hk1
    have hlen := ok.2.2.2.2 hk1
    have hlet := ok.2.2.1
    rw [← hwl] at hwv hlen hlet
    rw [← hs] at hwv hlet k10
    rw [hwv] at k6
    rw [if_pos hk1] at hst
    have hsn : s + wl ≤ n := by have := ok.2.1; rw [← hs, ← hwl] at this; exact this
    have hgd : Decidable ((wl : Int) = P0.1) := inferInstance
    -- the letters
    have letters : ∀ (f i : Nat) (v : Int), f + i = wl → v = zb ((wl : Int) = P0.1 ∧ zRw (σ1 (C + 1)) s i) → (∀ v : Int, v = zb ((wl : Int) = P0.1 ∧ zRw (σ1 (C + 1)) s wl) → zW G M_X11_readRow (mRwQ C σ1 n T r σ τ) 97 [some (.ref C), some (vi p), some (vi y), some (vi (wl : Int)), some (vi v), none] [] (zmS C, σ, τ)) → zW G M_X11_readRow (mRwQ C σ1 n T r σ τ) 58 [some (.ref C), some (vi p), some (vi y), some (vi (wl : Int)), some (vi v), some (vi ((s + i : Nat) : Int))] [] (zmS C, σ, τ) := by
      intro f
      induction f with
      | zero =>
        intro i v hi hv kk
        refine zw_iload 60 rfl dX11_readRow_58 rfl ?_
        refine zw_aload_n 61 rfl dX11_readRow_60 rfl ?_
        refine zw_geti 64 rfl dX11_readRow_61 fl_X11_110 (by first | assumption | exact zm_o0 | exact zm_o _ _ _ rfl) ?_
        rw [k6]
        refine zw_icmp_ge 97 67 rfl dX11_readRow_64 (by decide) (by omega) (by omega) (fun h_64 => ?_) (fun h_64 => ?_)
        · refine zw_drop 5 ?_
          exact kk v (by rw [hv, show i = wl by omega])
        · exfalso; omega
      | succ f ih =>
        intro i v hi hv kk
        have hri := hr (s + i) (by omega)
        rw [hv]
        refine zw_iload 60 rfl dX11_readRow_58 rfl ?_
        refine zw_aload_n 61 rfl dX11_readRow_60 rfl ?_
        refine zw_geti 64 rfl dX11_readRow_61 fl_X11_110 (by first | assumption | exact zm_o0 | exact zm_o _ _ _ rfl) ?_
        rw [k6]
        refine zw_icmp_ge 97 67 rfl dX11_readRow_64 (by decide) (by omega) (by omega) (fun h_64 => ?_) (fun h_64 => ?_)
        · exfalso; omega
        · refine zw_iload 69 rfl dX11_readRow_67 rfl ?_
          refine zw_if_eqB 88 72 rfl dX11_readRow_69 (by decide) (fun h_69 => ?_) (fun h_69 => ?_)
          · refine zw_iconst 89 rfl dX11_readRow_88 ?_
            refine zw_istore 91 rfl dX11_readRow_89 (Nat.le_of_ble_eq_true rfl) rfl ?_
            refine zw_iinc 94 rfl dX11_readRow_91 (Nat.le_of_ble_eq_true rfl) rfl rfl ?_
            refine zw_goto 58 dX11_readRow_94 (by decide) ?_
            refine ih (i + 1) _ (by omega) ?_ kk
            first
            | (exact zb_f (fun u => h_69 ⟨u.1, fun j hj => u.2 j (by omega)⟩))
            | (exact zb_f (fun u => by have := u.2 i (by omega); omega))
            | (exact zb_t ⟨h_69.1, fun j hj => by by_cases q : j = i; rw [q]; omega; exact h_69.2 j (by omega)⟩)
          · refine zw_aload_n 73 rfl dX11_readRow_72 rfl ?_
            refine zw_getr 76 rfl dX11_readRow_73 fl_X11_13 (by first | assumption | exact zm_o0 | exact zm_o _ _ _ rfl) (by first | assumption | exact zm_f _ _ rfl) ?_
            refine zw_iload 78 rfl dX11_readRow_76 rfl ?_
            refine zw_iald 79 rfl dX11_readRow_78 (by first | assumption | exact zm_o0 | exact zm_o _ _ _ rfl) (by omega) (by omega) ?_
            rw [Int.toNat_natCast, e1]
            refine zw_bipush 81 rfl dX11_readRow_79 rfl ?_
            refine zw_icmp_gt 88 84 rfl dX11_readRow_81 (by decide) (by omega) (by omega) (fun h_81 => ?_) (fun h_81 => ?_)
            · refine zw_iconst 89 rfl dX11_readRow_88 ?_
              refine zw_istore 91 rfl dX11_readRow_89 (Nat.le_of_ble_eq_true rfl) rfl ?_
              refine zw_iinc 94 rfl dX11_readRow_91 (Nat.le_of_ble_eq_true rfl) rfl rfl ?_
              refine zw_goto 58 dX11_readRow_94 (by decide) ?_
              refine ih (i + 1) _ (by omega) ?_ kk
              first
              | (exact zb_f (fun u => h_69 ⟨u.1, fun j hj => u.2 j (by omega)⟩))
              | (exact zb_f (fun u => by have := u.2 i (by omega); omega))
              | (exact zb_t ⟨h_69.1, fun j hj => by by_cases q : j = i; rw [q]; omega; exact h_69.2 j (by omega)⟩)
            · refine zw_iconst 85 rfl dX11_readRow_84 ?_
              refine zw_goto 89 dX11_readRow_85 (by decide) ?_
              refine zw_istore 91 rfl dX11_readRow_89 (Nat.le_of_ble_eq_true rfl) rfl ?_
              refine zw_iinc 94 rfl dX11_readRow_91 (Nat.le_of_ble_eq_true rfl) rfl rfl ?_
              refine zw_goto 58 dX11_readRow_94 (by decide) ?_
              refine ih (i + 1) _ (by omega) ?_ kk
              first
              | (exact zb_f (fun u => h_69 ⟨u.1, fun j hj => u.2 j (by omega)⟩))
              | (exact zb_f (fun u => by have := u.2 i (by omega); omega))
              | (exact zb_t ⟨h_69.1, fun j hj => by by_cases q : j = i; rw [q]; omega; exact h_69.2 j (by omega)⟩)
    -- the dots
    have good : ((wl : Int) = P0.1 ∧ zRw (σ1 (C + 1)) s wl) → P0.2.1 < 12 → zW G M_X11_readRow (mRwQ C σ1 n T r σ τ) 126 [some (.ref C), some (vi p), some (vi y), some (vi (wl : Int)), none, none] [] (zmS C, σ, τ) := by
      intro hg h12
      have hz0 : (zStep (σ1 (C + 1)) r (zTk (σ1 (C + 1)) n r.2.1)).1 = 0 := by rw [hst]; show zRf P0 _ s wl = 0; rw [zRf, if_pos hg, if_pos h12]
      have hT2 := hT.go h5 hpn hz0
      rw [hst] at hT2
      have hpl : p.toNat = r.2.2.1.length - 1 := by omega
      have hfr : ∀ σs : zSt, (∀ b j, ¬ (b = C + 4 ∧ j = p.toNat) → ¬ (b = C + 6 ∧ 192 * p.toNat ≤ j ∧ j < 192 * p.toNat + 192) → σs b j = σ b j) → mRb C σ1 n σs := fun σs q => ⟨fun b j h1 h2 => by rw [q b j (by omega) (by omega)]; exact hb.1 b j h1 h2, by rw [q _ _ (by omega) (by omega)]; exact hb.2⟩
      -- P0's rows stand
      have hrows : ∀ x y' : Int, 0 ≤ x ∧ x < P0.1 → 0 ≤ y' ∧ y' < P0.2.1 → σ (C + 6) (192 * p.toNat + (16 * y' + x).toNat) = P0.2.2 x y' ∧ 0 ≤ P0.2.2 x y' ∧ P0.2.2 x y' ≤ 255 := by
        intro x y' hx hy'
        rcases hy with q | q
        · exfalso; rw [hP0, zP0, if_pos q.1] at hy'; simp only at hy'; omega
        · have := hpc (r.2.2.1.length - 1) (by omega) (fun u => by omega)
          rw [hP0, zP0, if_neg (by omega)] at hx hy' ⊢
          rw [hpl]
          exact this.2.2.2.2 x y' hx hy'
      have dots : ∀ σs : zSt, (∀ b j, ¬ (b = C + 4 ∧ j = p.toNat) → ¬ (b = C + 6 ∧ 192 * p.toNat + (16 * y).toNat ≤ j ∧ j < 192 * p.toNat + (16 * y).toNat + 16) → σs b j = σ b j) → σs (C + 4) p.toNat = wl → (∀ x, x < 0 → σs (C + 6) (192 * p.toNat + (16 * y).toNat + x) = 17 * (σ1 (C + 1) (s + x) - 97)) → zW G M_X11_readRow (mRwQ C σ1 n T r σ τ) 136 [some (.ref C), some (vi p), some (vi y), some (vi (wl : Int)), none, some (vi (0 : Nat))] [] (zmS C, σs, τ) := by
        refine zloop (n := wl) (L := fun i => ∀ σs : zSt, (∀ b j, ¬ (b = C + 4 ∧ j = p.toNat) → ¬ (b = C + 6 ∧ 192 * p.toNat + (16 * y).toNat ≤ j ∧ j < 192 * p.toNat + (16 * y).toNat + 16) → σs b j = σ b j) → σs (C + 4) p.toNat = wl → (∀ x, x < i → σs (C + 6) (192 * p.toNat + (16 * y).toNat + x) = 17 * (σ1 (C + 1) (s + x) - 97)) → zW G M_X11_readRow (mRwQ C σ1 n T r σ τ) 136 [some (.ref C), some (vi p), some (vi y), some (vi (wl : Int)), none, some (vi i)] [] (zmS C, σs, τ)) ?_ ?_
        · intro σs f1 f2 f3
          have hbs : mRb C σ1 n (zu σs (C + 5) p.toNat (y + 1)) := (hfr σs (fun b j q1 q2 => f1 b j q1 (by omega))).u (Or.inr (by omega))
          have e7 : zu σs (C + 5) p.toNat (y + 1) C 7 = 0 := by rw [zu_a _ _ (by omega), f1 _ _ (by omega) (by omega)]; exact h7
          have e6 : zu σs (C + 5) p.toNat (y + 1) C 6 = (s + wl : Nat) := by rw [zu_a _ _ (by omega), f1 _ _ (by omega) (by omega)]; exact k6
          refine zw_iload 138 rfl dX11_readRow_136 rfl ?_
          refine zw_iload_n 139 rfl dX11_readRow_138 rfl ?_
          refine zw_icmp_ge 184 142 rfl dX11_readRow_139 (by decide) (by omega) (by omega) (fun h_139 => ?_) (fun h_139 => ?_)
          · refine zw_aload_n 185 rfl dX11_readRow_184 rfl ?_
            refine zw_getr 188 rfl dX11_readRow_185 fl_X11_26 (by first | assumption | exact zm_o0 | exact zm_o _ _ _ rfl) (by first | assumption | exact zm_f _ _ rfl) ?_
            refine zw_iload_n 189 rfl dX11_readRow_188 rfl ?_
            refine zw_iload_n 190 rfl dX11_readRow_189 rfl ?_
            refine zw_iconst 191 rfl dX11_readRow_190 ?_
            refine zw_iadd 192 rfl dX11_readRow_191 ?_
            refine zw_iast 193 rfl dX11_readRow_192 (by first | assumption | exact zm_o0 | exact zm_o _ _ _ rfl) (by omega) (by omega) ?_
            refine zw_aload_n 194 rfl dX11_readRow_193 rfl ?_
            refine zw_cVr0 197 rfl dX11_readRow_194 kX11_readRow_127 (Nat.le_of_ble_eq_true rfl) (by first | assumption | exact zm_o0 | exact zm_o _ _ _ rfl) (m_goOn (p := s + wl) hbs.2 e6 e7 (by omega) hn (by rw [hbs.t]; exact hr)) ?_
            rintro _ _ ⟨rfl, σ4, rfl, g1, g2⟩
            refine zw_vret (st := []) dX11_readRow_197 rfl ⟨rfl, _, rfl, ?_, Or.inr ⟨(4, (zTk (σ1 (C + 1)) n r.2.1).2.1, r.2.2.1, va_up r.2.2.2 (r.2.2.1.length - 1) (aRow P0 (σ1 (C + 1)) s wl)), rfl, rfl, ?_, ?_, hT2⟩⟩
            · rw [g1 _ _ (by omega), zu_a _ _ (by omega), f1 _ _ (by omega) (by omega)]
            · have := zTk_prog (t := σ1 (C + 1)) hpn
              show r.2.1 < (zTk (σ1 (C + 1)) n r.2.1).2.1
              omega
            refine ⟨⟨fun b j h1 h2 => by rw [g1 b j (by omega)]; exact hbs.1 b j h1 h2, by rw [g1 _ _ (by omega)]; exact hbs.2⟩, by rw [g1 _ _ (by omega)]; exact e7, ?_, ?_, hl4, hnm.c (fun q hq => ?_), fun q hq _ => ?_⟩
            · show mTok C (zTk (σ1 (C + 1)) n (zTk (σ1 (C + 1)) n r.2.1).2.1) σ4
              rw [hwv]
              rw [hbs.t] at g2
              exact g2
            · show (zTk (σ1 (C + 1)) n r.2.1).2.1 ≤ n
              rw [hwv]; exact hsn
            · rw [g1 _ _ (by omega), g1 _ _ (by omega), zu_a _ _ (by omega), zu_a _ _ (by omega), f1 _ _ (by omega) (by omega), f1 _ _ (by omega) (by omega)]
              exact ⟨rfl, rfl⟩
            · have hq : q < r.2.2.1.length := hq
              show mRpc C σ4 q (va_up r.2.2.2 (r.2.2.1.length - 1) (aRow P0 (σ1 (C + 1)) s wl) q)
              by_cases e : q = r.2.2.1.length - 1
              · subst e
                rw [va_up_self]
                refine ⟨?_, ?_, ?_, ?_, fun x y' hx hy' => ?_⟩
                · rw [g1 _ _ (by omega), zu_a _ _ (by omega), ← hpl, f2]; exact hg.1
                · show 1 ≤ P0.1 ∧ P0.1 ≤ 16; have := hg.1; omega
                · rw [g1 _ _ (by omega), ← hpl, zu_eq, hyP.1]; rfl
                · show 1 ≤ P0.2.1 + 1 ∧ P0.2.1 + 1 ≤ 12; omega
                · have hx : 0 ≤ x ∧ x < P0.1 := hx
                  have hy' : 0 ≤ y' ∧ y' < P0.2.1 + 1 := hy'
                  have hw1 := hg.1
                  rw [g1 _ _ (by omega), zu_a _ _ (by omega), ← hpl]
                  show σs (C + 6) _ = (if y' = P0.2.1 then (if x.toNat < wl then 17 * (σ1 (C + 1) (s + x.toNat) - 97) else 0) else P0.2.2 x y') ∧ 0 ≤ (if y' = P0.2.1 then (if x.toNat < wl then 17 * (σ1 (C + 1) (s + x.toNat) - 97) else 0) else P0.2.2 x y') ∧ (if y' = P0.2.1 then (if x.toNat < wl then 17 * (σ1 (C + 1) (s + x.toNat) - 97) else 0) else P0.2.2 x y') ≤ 255
                  by_cases ey : y' = P0.2.1
                  · rw [if_pos ey, if_pos (by omega)]
                    have q1 := f3 x.toNat (by omega)
                    have q2 := hlet x.toNat (by omega)
                    have q3 := hg.2 x.toNat (by omega)
                    rw [show 192 * p.toNat + (16 * y' + x).toNat = 192 * p.toNat + (16 * y).toNat + x.toNat by omega, q1]
                    omega
                  · rw [if_neg ey, f1 _ _ (by omega) (by omega)]
                    exact hrows x y' hx (by omega)
              · rw [va_up_ne _ _ e]
                refine (hpc q hq (fun _ => by omega)).c ?_ ?_ (fun j j1 j2 => ?_)
                · rw [g1 _ _ (by omega), zu_a _ _ (by omega), f1 _ _ (by omega) (by omega)]
                · rw [g1 _ _ (by omega), zu_ne _ _ (by omega), f1 _ _ (by omega) (by omega)]
                · rw [g1 _ _ (by omega), zu_a _ _ (by omega), f1 _ _ (by omega) (by omega)]
          · exfalso; omega
        · intro i hi ih σs f1 f2 f3
          have k10s : σs C 10 = s := by rw [f1 _ _ (by omega) (by omega)]; exact k10
          have ets : σs (C + 1) = σ1 (C + 1) := by rw [← e1]; exact funext fun j => f1 _ _ (by omega) (by omega)
          refine zw_iload 138 rfl dX11_readRow_136 rfl ?_
          refine zw_iload_n 139 rfl dX11_readRow_138 rfl ?_
          refine zw_icmp_ge 184 142 rfl dX11_readRow_139 (by decide) (by omega) (by omega) (fun h_139 => ?_) (fun h_139 => ?_)
          · exfalso; omega
          · refine zw_aload_n 143 rfl dX11_readRow_142 rfl ?_
            refine zw_getr 146 rfl dX11_readRow_143 fl_X11_29 (by first | assumption | exact zm_o0 | exact zm_o _ _ _ rfl) (by first | assumption | exact zm_f _ _ rfl) ?_
            refine zw_sipush 149 rfl dX11_readRow_146 rfl ?_
            refine zw_iload_n 150 rfl dX11_readRow_149 rfl ?_
            refine zw_imul 151 rfl dX11_readRow_150 ?_
            refine zw_bipush 153 rfl dX11_readRow_151 rfl ?_
            refine zw_iload_n 154 rfl dX11_readRow_153 rfl ?_
            refine zw_imul 155 rfl dX11_readRow_154 ?_
            refine zw_iadd 156 rfl dX11_readRow_155 ?_
            refine zw_iload 158 rfl dX11_readRow_156 rfl ?_
            refine zw_iadd 159 rfl dX11_readRow_158 ?_
            refine zw_bipush 161 rfl dX11_readRow_159 rfl ?_
            refine zw_aload_n 162 rfl dX11_readRow_161 rfl ?_
            refine zw_getr 165 rfl dX11_readRow_162 fl_X11_13 (by first | assumption | exact zm_o0 | exact zm_o _ _ _ rfl) (by first | assumption | exact zm_f _ _ rfl) ?_
            refine zw_aload_n 166 rfl dX11_readRow_165 rfl ?_
            refine zw_geti 169 rfl dX11_readRow_166 fl_X11_97 (by first | assumption | exact zm_o0 | exact zm_o _ _ _ rfl) ?_
            rw [k10s]
            refine zw_iload 171 rfl dX11_readRow_169 rfl ?_
            refine zw_iadd 172 rfl dX11_readRow_171 ?_
            refine zw_iald 173 rfl dX11_readRow_172 (by first | assumption | exact zm_o0 | exact zm_o _ _ _ rfl) (by omega) (by omega) ?_
            rw [show ((s : Int) + (i : Int)).toNat = s + i by omega, ets]
            refine zw_bipush 175 rfl dX11_readRow_173 rfl ?_
            refine zw_isub 176 rfl dX11_readRow_175 ?_
            refine zw_imul 177 rfl dX11_readRow_176 ?_
            refine zw_iast 178 rfl dX11_readRow_177 (by first | assumption | exact zm_o0 | exact zm_o _ _ _ rfl) (by omega) (by omega) ?_
            refine zw_iinc 181 rfl dX11_readRow_178 (Nat.le_of_ble_eq_true rfl) rfl rfl ?_
            refine zw_goto 136 dX11_readRow_181 (by decide) ?_
            rw [show (192 * p + 16 * y + (i : Int)).toNat = 192 * p.toNat + (16 * y).toNat + i by omega]
            refine ih _ (fun b j q1 q2 => by rw [zu_ne _ _ (by omega)]; exact f1 b j q1 q2) (by rw [zu_a _ _ (by omega)]; exact f2) (fun x hx => ?_)
            by_cases q : x = i
            · subst q; rw [zu_eq]
            · rw [zu_k _ _ (by omega)]; exact f3 x (by omega)
      refine zw_aload_n 127 rfl dX11_readRow_126 rfl ?_
      refine zw_getr 130 rfl dX11_readRow_127 fl_X11_23 (by first | assumption | exact zm_o0 | exact zm_o _ _ _ rfl) (by first | assumption | exact zm_f _ _ rfl) ?_
      refine zw_iload_n 131 rfl dX11_readRow_130 rfl ?_
      refine zw_iload_n 132 rfl dX11_readRow_131 rfl ?_
      refine zw_iast 133 rfl dX11_readRow_132 (by first | assumption | exact zm_o0 | exact zm_o _ _ _ rfl) (by omega) (by omega) ?_
      refine zw_iconst 134 rfl dX11_readRow_133 ?_
      refine zw_istore 136 rfl dX11_readRow_134 (Nat.le_of_ble_eq_true rfl) rfl ?_
      exact dots _ (fun b j q1 q2 => zu_ne _ _ q1) (zu_eq _ _ _ _) (fun x hx => absurd hx (by omega))
    have J118 : ∀ k : Int, (1 ≤ k ∧ k ≤ 4) → (zStep (σ1 (C + 1)) r (zTk (σ1 (C + 1)) n r.2.1)).1 = k → zW G M_X11_readRow (mRwQ C σ1 n T r σ τ) 118 [some (.ref C), some (vi p), some (vi y), some (vi (wl : Int)), none, none] [] (zmS C, zu (zu σ C 7 k) C 8 (σ C 10), τ) := by
      intro k hk hz
      obtain ⟨l1, l2, l3, l4⟩ := fl k
      refine zw_aload_n 119 rfl dX11_readRow_118 rfl ?_
      refine zw_geti 122 rfl dX11_readRow_119 fl_X11_94 (by first | assumption | exact zm_o0 | exact zm_o _ _ _ rfl) ?_
      rw [l3]
      refine zw_if_le 126 125 rfl dX11_readRow_122 (by decide) (by omega) (fun h_122 => ?_) (fun h_122 => ?_)
      · exfalso; omega
      · exact zw_vret (st := []) dX11_readRow_125 rfl (fltQ k _ l1 l2 l3 (by rw [l4]) hk hz)
    have judge : ∀ v : Int, v = zb ((wl : Int) = P0.1 ∧ zRw (σ1 (C + 1)) s wl) → zW G M_X11_readRow (mRwQ C σ1 n T r σ τ) 97 [some (.ref C), some (vi p), some (vi y), some (vi (wl : Int)), some (vi v), none] [] (zmS C, σ, τ) := by
      intro v hv
      rw [hv]
      have z1 : (zStep (σ1 (C + 1)) r (zTk (σ1 (C + 1)) n r.2.1)).1 = zRf P0 (σ1 (C + 1)) s wl := by rw [hst]
      by_cases hg : (wl : Int) = P0.1 ∧ zRw (σ1 (C + 1)) s wl
      · by_cases h12 : P0.2.1 < 12
        · have good := good hg h12
          refine zw_iload 99 rfl dX11_readRow_97 rfl ?_
          refine zw_if_neB 107 102 rfl dX11_readRow_99 (by decide) (fun h_99 => ?_) (fun h_99 => ?_)
          · refine zw_iload_n 108 rfl dX11_readRow_107 rfl ?_
            refine zw_bipush 110 rfl dX11_readRow_108 rfl ?_
            refine zw_icmp_ne 118 113 rfl dX11_readRow_110 (by decide) (by omega) (by omega) (fun h_110 => ?_) (fun h_110 => ?_)
            · refine zw_aload_n 119 rfl dX11_readRow_118 rfl ?_
              refine zw_geti 122 rfl dX11_readRow_119 fl_X11_94 (by first | assumption | exact zm_o0 | exact zm_o _ _ _ rfl) ?_
              rw [h7]
              refine zw_if_le 126 125 rfl dX11_readRow_122 (by decide) (by omega) (fun h_122 => ?_) (fun h_122 => ?_)
              · refine zw_drop 4 ?_
                exact good
              · exfalso; omega
            · exfalso; omega
          · exact absurd hg h_99
        · have zf : zRf P0 (σ1 (C + 1)) s wl = 4 := by rw [zRf, if_pos hg, if_neg h12]
          have J := J118 4 (by omega) (z1.trans zf)
          refine zw_iload 99 rfl dX11_readRow_97 rfl ?_
          refine zw_if_neB 107 102 rfl dX11_readRow_99 (by decide) (fun h_99 => ?_) (fun h_99 => ?_)
          · refine zw_iload_n 108 rfl dX11_readRow_107 rfl ?_
            refine zw_bipush 110 rfl dX11_readRow_108 rfl ?_
            refine zw_icmp_ne 118 113 rfl dX11_readRow_110 (by decide) (by omega) (by omega) (fun h_110 => ?_) (fun h_110 => ?_)
            · first
              | (exfalso; omega)
              | (refine zw_drop 4 ?_
                 exact J)
            · refine zw_aload_n 114 rfl dX11_readRow_113 rfl ?_
              refine zw_iconst 115 rfl dX11_readRow_114 ?_
              refine zw_cVv1 118 rfl dX11_readRow_115 kX11_readRow_123 (Nat.le_of_ble_eq_true rfl) (by first | assumption | exact zm_o0 | exact zm_o _ _ _ rfl) (m_flaw0 h7) ?_
              first
              | (exfalso; omega)
              | (refine zw_drop 4 ?_
                 exact J)
          · exact absurd hg h_99
      · have zf : zRf P0 (σ1 (C + 1)) s wl = 2 := by rw [zRf, if_neg hg]
        have J := J118 2 (by omega) (z1.trans zf)
        have J107 : zW G M_X11_readRow (mRwQ C σ1 n T r σ τ) 107 [some (.ref C), some (vi p), some (vi y), some (vi (wl : Int)), none, none] [] (zmS C, zu (zu σ C 7 2) C 8 (σ C 10), τ) := by
          refine zw_iload_n 108 rfl dX11_readRow_107 rfl ?_
          refine zw_bipush 110 rfl dX11_readRow_108 rfl ?_
          refine zw_icmp_ne 118 113 rfl dX11_readRow_110 (by decide) (by omega) (by omega) (fun h_110 => ?_) (fun h_110 => ?_)
          · exact J
          · refine zw_aload_n 114 rfl dX11_readRow_113 rfl ?_
            refine zw_iconst 115 rfl dX11_readRow_114 ?_
            refine zw_cVv1 118 rfl dX11_readRow_115 kX11_readRow_123 (Nat.le_of_ble_eq_true rfl) (by first | assumption | exact zm_o0 | exact zm_o _ _ _ rfl) (m_flawF (by rw [(fl 2).2.2.1]; omega)) ?_
            exact J
        refine zw_iload 99 rfl dX11_readRow_97 rfl ?_
        refine zw_if_neB 107 102 rfl dX11_readRow_99 (by decide) (fun h_99 => ?_) (fun h_99 => ?_)
        · first
          | (exact absurd h_99 hg)
          | (refine zw_drop 4 ?_
             exact J107)
        · refine zw_aload_n 103 rfl dX11_readRow_102 rfl ?_
          refine zw_iconst 104 rfl dX11_readRow_103 ?_
          refine zw_cVv1 107 rfl dX11_readRow_104 kX11_readRow_123 (Nat.le_of_ble_eq_true rfl) (by first | assumption | exact zm_o0 | exact zm_o _ _ _ rfl) (m_flaw0 h7) ?_
          first
          | (exact absurd h_99 hg)
          | (refine zw_drop 4 ?_
             exact J107)
    have hrw := hpc (r.2.2.1.length - 1) (by omega)
    have start : ∀ v : Int, v = zb ((wl : Int) = P0.1 ∧ zRw (σ1 (C + 1)) s 0) → zW G M_X11_readRow (mRwQ C σ1 n T r σ τ) 50 [some (.ref C), some (vi p), some (vi y), some (vi (wl : Int)), none, none] [vi v] (zmS C, σ, τ) := by
      intro v hv
      refine zw_istore 52 rfl dX11_readRow_50 (Nat.le_of_ble_eq_true rfl) rfl ?_
      refine zw_aload_n 53 rfl dX11_readRow_52 rfl ?_
      refine zw_geti 56 rfl dX11_readRow_53 fl_X11_97 (by first | assumption | exact zm_o0 | exact zm_o _ _ _ rfl) ?_
      rw [k10]
      refine zw_istore 58 rfl dX11_readRow_56 (Nat.le_of_ble_eq_true rfl) rfl ?_
      have L := letters wl 0 v (by omega) hv judge
      exact L
    refine zw_aload_n 1 rfl dX11_readRow_0 rfl ?_
    refine zw_geti 4 rfl dX11_readRow_1 fl_X11_113 (by first | assumption | exact zm_o0 | exact zm_o _ _ _ rfl) ?_
    rw [hk2]
    refine zw_iconst 5 rfl dX11_readRow_4 ?_
    refine zw_icmp_eq 13 8 rfl dX11_readRow_5 (by decide) (by omega) (by omega) (fun h_5 => ?_) (fun h_5 => ?_)
    · refine zw_aload_n 14 rfl dX11_readRow_13 rfl ?_
      refine zw_geti 17 rfl dX11_readRow_14 fl_X11_94 (by first | assumption | exact zm_o0 | exact zm_o _ _ _ rfl) ?_
      rw [h7]
      refine zw_if_le 21 20 rfl dX11_readRow_17 (by decide) (by omega) (fun h_17 => ?_) (fun h_17 => ?_)
      · refine zw_aload_n 22 rfl dX11_readRow_21 rfl ?_
        refine zw_geti 25 rfl dX11_readRow_22 fl_X11_110 (by first | assumption | exact zm_o0 | exact zm_o _ _ _ rfl) ?_
        rw [k6]
        refine zw_aload_n 26 rfl dX11_readRow_25 rfl ?_
        refine zw_geti 29 rfl dX11_readRow_26 fl_X11_97 (by first | assumption | exact zm_o0 | exact zm_o _ _ _ rfl) ?_
        rw [k10]
        refine zw_isub 30 rfl dX11_readRow_29 ?_
        rw [show ((s + wl : Nat) : Int) - (s : Int) = (wl : Int) by omega]
        refine zw_istore_n 31 rfl dX11_readRow_30 (Nat.le_of_ble_eq_true rfl) rfl ?_
        refine zw_iload_n 32 rfl dX11_readRow_31 rfl ?_
        refine zw_if_eq 45 35 rfl dX11_readRow_32 (by decide) (by omega) (fun h_32 => ?_) (fun h_32 => ?_)
        · refine zw_iconst 46 rfl dX11_readRow_45 ?_
          refine zw_goto 50 dX11_readRow_46 (by decide) ?_
          first
          | (refine start 1 (zb_t ⟨?_, fun j hj => absurd hj (by omega)⟩)
             first
             | omega
             | (rcases hy with q | q
                · rw [hP0, zP0, if_pos q.1]
                · exfalso; have := hpc (r.2.2.1.length - 1) (by omega) (fun u => by omega); have := this.2.2.2.1; omega))
          | (refine start 0 (zb_f (fun u => ?_))
             have := u.1; omega)
        · refine zw_iload_n 36 rfl dX11_readRow_35 rfl ?_
          refine zw_aload_n 37 rfl dX11_readRow_36 rfl ?_
          refine zw_getr 40 rfl dX11_readRow_37 fl_X11_23 (by first | assumption | exact zm_o0 | exact zm_o _ _ _ rfl) (by first | assumption | exact zm_f _ _ rfl) ?_
          refine zw_iload_n 41 rfl dX11_readRow_40 rfl ?_
          refine zw_iald 42 rfl dX11_readRow_41 (by first | assumption | exact zm_o0 | exact zm_o _ _ _ rfl) (by omega) (by omega) ?_
          have q3 : r.1 = 3 := by omega
          have hrw := hrw (fun u => by omega)
          rw [show p.toNat = r.2.2.1.length - 1 by omega, hrw.1]
          have hP1 : P0.1 = (r.2.2.2 (r.2.2.1.length - 1)).1 := by rw [hP0, zP0, if_neg (by omega)]
          have hb2 := hrw.2.1
          refine zw_icmp_ne 49 45 rfl dX11_readRow_42 (by decide) (by omega) (by omega) (fun h_42 => ?_) (fun h_42 => ?_)
          · refine zw_iconst 50 rfl dX11_readRow_49 ?_
            first
            | (refine start 1 (zb_t ⟨?_, fun j hj => absurd hj (by omega)⟩)
               first
               | omega
               | (rcases hy with q | q
                  · rw [hP0, zP0, if_pos q.1]
                  · exfalso; have := hpc (r.2.2.1.length - 1) (by omega) (fun u => by omega); have := this.2.2.2.1; omega))
            | (refine start 0 (zb_f (fun u => ?_))
               have := u.1; omega)
          · refine zw_iconst 46 rfl dX11_readRow_45 ?_
            refine zw_goto 50 dX11_readRow_46 (by decide) ?_
            first
            | (refine start 1 (zb_t ⟨?_, fun j hj => absurd hj (by omega)⟩)
               first
               | omega
               | (rcases hy with q | q
                  · rw [hP0, zP0, if_pos q.1]
                  · exfalso; have := hpc (r.2.2.1.length - 1) (by omega) (fun u => by omega); have := this.2.2.2.1; omega))
            | (refine start 0 (zb_f (fun u => ?_))
               have := u.1; omega)
      · exfalso; omega
    · exact absurd rfl h_5
  · rw [if_neg hk1] at hst
    obtain ⟨l1, l2, l3, l4⟩ := fl 1
    have J13 : zW G M_X11_readRow (mRwQ C σ1 n T r σ τ) 13 [some (.ref C), some (vi p), some (vi y), none, none, none] [] (zmS C, zu (zu σ C 7 1) C 8 (σ C 10), τ) := by
      refine zw_aload_n 14 rfl dX11_readRow_13 rfl ?_
      refine zw_geti 17 rfl dX11_readRow_14 fl_X11_94 (by first | assumption | exact zm_o0 | exact zm_o _ _ _ rfl) ?_
      rw [l3]
      refine zw_if_le 21 20 rfl dX11_readRow_17 (by decide) (by omega) (fun h_17 => ?_) (fun h_17 => ?_)
      · exfalso; omega
      · exact zw_vret (st := []) dX11_readRow_20 rfl (fltQ 1 _ l1 l2 l3 (by rw [l4]) (by omega) (by rw [hst]))
    refine zw_aload_n 1 rfl dX11_readRow_0 rfl ?_
    refine zw_geti 4 rfl dX11_readRow_1 fl_X11_113 (by first | assumption | exact zm_o0 | exact zm_o _ _ _ rfl) ?_
    refine zw_iconst 5 rfl dX11_readRow_4 ?_
    refine zw_icmp_eq 13 8 rfl dX11_readRow_5 (by decide) (by omega) (by omega) (fun h_5 => ?_) (fun h_5 => ?_)
    · first
      | (exfalso; omega)
      | (exact J13)
    · refine zw_aload_n 9 rfl dX11_readRow_8 rfl ?_
      refine zw_iconst 10 rfl dX11_readRow_9 ?_
      refine zw_cVv1 13 rfl dX11_readRow_10 kX11_readRow_123 (Nat.le_of_ble_eq_true rfl) (by first | assumption | exact zm_o0 | exact zm_o _ _ _ rfl) (m_flaw0 h7) ?_
      first
      | (exfalso; omega)
      | (exact J13)
