/-! ===== a picture that is laid ===== -/
def mKey2 (C b j : Nat) : Prop := mKey C b j ∨ (b = C + 9 ∧ 1358 ≤ j)
def mSc2 (C : Nat) (σ σ' : zSt) : Prop := ∀ b j, mKey2 C b j → σ' b j = σ b j
theorem mSc2.rf {C : Nat} {σ : zSt} : mSc2 C σ σ := fun _ _ _ => rfl
theorem mSc2.tr {C : Nat} {σ σ1 σ2 : zSt} (h1 : mSc2 C σ σ1) (h2 : mSc2 C σ1 σ2) : mSc2 C σ σ2 := fun b j h => (h2 b j h).trans (h1 b j h)
theorem mSc2.s {C : Nat} {σ σ1 : zSt} (h : mSc2 C σ σ1) : mScr C σ σ1 := fun b j hk => h b j (Or.inl hk)
theorem mSc2.u {C a k : Nat} {σ σ1 : zSt} {v : Int} (h1 : mSc2 C σ σ1) (h : ¬ mKey2 C a k) : mSc2 C σ (zu σ1 a k v) := fun b j hk => by
  rw [zu_ne _ _ (fun q => h (by rw [← q.1, ← q.2]; exact hk))]; exact h1 b j hk
theorem mPc.s {C : Nat} {σ σ' : zSt} {p : Int} {q : zPc} (h : mPc C σ p q) (hp : p ≤ 5 ∨ p = 7) (hs : mSc2 C σ σ') : mPc C σ' p q := h.c (fun j hj => hs _ _ (by have := h.1; unfold mKey2 mKey; omega))
theorem m_putsN {G : zG} {C : Nat} {σ τ : zSt} {x y v : Int} (hx : 0 ≤ x ∧ x ≤ 15) (hy : 0 ≤ y ∧ y ≤ 11) : zC G M_X11_puts [.ref C, vi 6, vi x, vi y, vi v] (zmS C, σ, τ) (zR none (zmS C, zu σ (C + 9) (1166 + (16 * y + x).toNat) v, τ)) := m_puts (p := 6) (by omega) hx hy
theorem m_begins {G : zG} {C : Nat} {σ τ : zSt} {w h : Int} : zC G M_X11_begins [.ref C, vi w, vi h] (zmS C, σ, τ) (zR none (zmS C, zu (zu σ (C + 9) 1164 w) (C + 9) 1165 h, τ)) := by
  refine zC_of 0 rfl (Nat.le_of_ble_eq_true rfl) ?_
  refine zw_aload_n 1 rfl dX11_begins_0 rfl ?_
  refine zw_getr 4 rfl dX11_begins_1 fl_X11_38 (by first | assumption | exact zm_o0 | exact zm_o _ _ _ rfl) (by first | assumption | exact zm_f _ _ rfl) ?_
  refine zw_sipush 7 rfl dX11_begins_4 rfl ?_
  refine zw_iload_n 8 rfl dX11_begins_7 rfl ?_
  refine zw_iast 9 rfl dX11_begins_8 (by first | assumption | exact zm_o0 | exact zm_o _ _ _ rfl) (by omega) (by omega) ?_
  refine zw_aload_n 10 rfl dX11_begins_9 rfl ?_
  refine zw_getr 13 rfl dX11_begins_10 fl_X11_38 (by first | assumption | exact zm_o0 | exact zm_o _ _ _ rfl) (by first | assumption | exact zm_f _ _ rfl) ?_
  refine zw_sipush 16 rfl dX11_begins_13 rfl ?_
  refine zw_iload_n 17 rfl dX11_begins_16 rfl ?_
  refine zw_iast 18 rfl dX11_begins_17 (by first | assumption | exact zm_o0 | exact zm_o _ _ _ rfl) (by omega) (by omega) ?_
  exact zw_vretR dX11_begins_18 rfl rfl
/-- of what is laid, w wide and h high, the dots of the rows ahead of j and the first i of row j lie where pos says -/
def mNw (C : Nat) (σr : zSt) (W w h : Int) (V : Int → Int → Int) (pos : Int → Int → Nat) (j i : Nat) (σs : zSt) : Prop := mSc2 C σr σs ∧ σs (C + 9) 1164 = w ∧ σs (C + 9) 1165 = h ∧ ∀ x y : Int, 0 ≤ x ∧ x < W → (0 ≤ y ∧ y < j) ∨ (y = j ∧ x < i) → σs (C + 9) (1166 + pos x y) = V x y
theorem mNw.start {C : Nat} {σr σ : zSt} {W w h : Int} {V : Int → Int → Int} {pos : Int → Int → Nat} (hs : mSc2 C σr σ) : mNw C σr W w h V pos 0 0 (zu (zu σ (C + 9) 1164 w) (C + 9) 1165 h) :=
  ⟨(hs.u (by unfold mKey2 mKey; omega)).u (by unfold mKey2 mKey; omega), by rw [zu_k _ _ (by omega), zu_eq], zu_eq _ _ _ _, fun x y hx hy => by omega⟩
theorem mNw.put {C j i : Nat} {σr σs : zSt} {W w h H v : Int} {V : Int → Int → Int} {pos : Int → Int → Nat} {k : Nat} (hl : mNw C σr W w h V pos j i σs) (hi : (i : Int) < W) (hj : (j : Int) < H) (hpos : ∀ x y x' y' : Int, 0 ≤ x ∧ x < W → 0 ≤ y ∧ y < H → 0 ≤ x' ∧ x' < W → 0 ≤ y' ∧ y' < H → pos x y = pos x' y' → x = x' ∧ y = y') (hk : k = 1166 + pos i j) (hr : pos i j < 192) (hv : v = V i j) : mNw C σr W w h V pos j (i + 1) (zu σs (C + 9) k v) := by
  obtain ⟨h1, h2, h3, h4⟩ := hl
  subst hk hv
  refine ⟨h1.u (by unfold mKey2 mKey; omega), by rw [zu_k _ _ (by omega)]; exact h2, by rw [zu_k _ _ (by omega)]; exact h3, fun x y hx hy => ?_⟩
  by_cases e : x = i ∧ y = j
  · rw [e.1, e.2, zu_eq]
  · rw [zu_k _ _ (fun q => e (hpos x y i j hx (by omega) (by omega) (by omega) (by omega)))]
    exact h4 x y hx (by omega)
theorem mNw.row {C j : Nat} {σr σs : zSt} {W w h : Int} {V : Int → Int → Int} {pos : Int → Int → Nat} (hl : mNw C σr W w h V pos j W.toNat σs) : mNw C σr W w h V pos (j + 1) 0 σs := by
  obtain ⟨h1, h2, h3, h4⟩ := hl
  exact ⟨h1, h2, h3, fun x y hx hy => h4 x y hx (by omega)⟩
/-- the plain place -/
def mAt (x y : Int) : Nat := (16 * y + x).toNat
theorem mAt_i {W H : Int} (hW : W ≤ 16) : ∀ x y x' y' : Int, 0 ≤ x ∧ x < W → 0 ≤ y ∧ y < H → 0 ≤ x' ∧ x' < W → 0 ≤ y' ∧ y' < H → mAt x y = mAt x' y' → x = x' ∧ y = y' := by
  intro x y x' y' h1 h2 h3 h4 h5
  unfold mAt at h5
  omega
theorem mNw.put1 {C j i : Nat} {σr σs : zSt} {W w h v x y : Int} {V : Int → Int → Int} (hl : mNw C σr W w h V mAt j i σs) (hi : (i : Int) < W) (hj : j < 12) (hW : W ≤ 16) (hx : x = i) (hy : y = j) (hv : v = V i j) : mNw C σr W w h V mAt j (i + 1) (zu σs (C + 9) (1166 + (16 * y + x).toNat) v) := by
  subst hx hy
  exact hl.put (H := 12) hi (by omega) (mAt_i hW) rfl (by unfold mAt; omega) hv
theorem mNw.pic {C j : Nat} {σr σs : zSt} {w h : Int} {V : Int → Int → Int} (hl : mNw C σr w w h V mAt j 0 σs) (hj : h ≤ j) (hw : 1 ≤ w ∧ w ≤ 16) (hh : 1 ≤ h ∧ h ≤ 12) (hV : ∀ x y : Int, 0 ≤ x ∧ x < w → 0 ≤ y ∧ y < h → 0 ≤ V x y ∧ V x y ≤ 255) : mrPic (σs (C + 9)) 1164 (w, h, V) := by
  obtain ⟨h1, h2, h3, h4⟩ := hl
  refine ⟨h2, by show 0 ≤ w ∧ w ≤ 16; omega, fun _ => ⟨h3, hh, fun x y hx hy => ⟨?_, hV x y hx hy⟩⟩⟩
  have hx : 0 ≤ x ∧ x < w := hx
  have hy : 0 ≤ y ∧ y < h := hy
  exact h4 x y hx (by omega)
theorem mrPic.n {C : Nat} {σ : zSt} {p : zPc} (h : mrPic (σ (C + 9)) 1164 p) (h0 : 0 < p.1) : mPc C σ 6 p := ⟨by omega, h, h0⟩
/-! ===== how many ===== -/
theorem m_others {G : zG} {C : Nat} {σ τ : zSt} {p : Int} {q r : zPc} (h : mPc C σ p q) (hr : mPc C σ 6 r) (e1 : r.1 = q.1) (e2 : r.2.1 = q.2.1) : zC G M_X11_others [.ref C, vi p] (zmS C, σ, τ) (zR (some (vi (aOth r q))) (zmS C, σ, τ)) := by
  have hw := h.wh
  refine zC_of 3 rfl (Nat.le_of_ble_eq_true rfl) ?_
  unfold aOth
  rw [e1, e2, zpt_e]
  generalize hF : (fun (x y n : Int) => n + if r.2.2 x y = q.2.2 x y then (0 : Int) else 1) = F
  have hF' : ∀ x y n, F x y n = n + if r.2.2 x y = q.2.2 x y then (0 : Int) else 1 := fun x y n => by rw [← hF]
  have key : zW G M_X11_others (zR (some (vi (zpt q.1 F 0 q.2.1.toNat 0))) (zmS C, σ, τ)) 4 [some (.ref C), some (vi p), some (vi (zpt q.1 F 0 0 0)), some (vi (0 : Nat)), none] [] (zmS C, σ, τ) := by
    refine zrows (w := q.1.toNat) (h := q.2.1.toNat) (O := fun j => zW G M_X11_others (zR (some (vi (zpt q.1 F 0 q.2.1.toNat 0))) (zmS C, σ, τ)) 4 [some (.ref C), some (vi p), some (vi (zpt q.1 F 0 j 0)), some (vi j), none] [] (zmS C, σ, τ)) (N := fun j i => zW G M_X11_others (zR (some (vi (zpt q.1 F 0 q.2.1.toNat 0))) (zmS C, σ, τ)) 16 [some (.ref C), some (vi p), some (vi (zpt q.1 F 0 j i)), some (vi j), some (vi i)] [] (zmS C, σ, τ)) ?_ ?_ ?_ ?_
    · refine zw_iload_n 5 rfl dX11_others_4 rfl ?_
      refine zw_aload_n 6 rfl dX11_others_5 rfl ?_
      refine zw_iload_n 7 rfl dX11_others_6 rfl ?_
      refine zw_cVi1 10 rfl dX11_others_7 kX11_others_176 (Nat.le_of_ble_eq_true rfl) (by first | assumption | exact zm_o0 | exact zm_o _ _ _ rfl) (m_highP h) ?_
      refine zw_icmp_ge 66 13 rfl dX11_others_10 (by decide) (by omega) (by omega) (fun h_10 => ?_) (fun h_10 => ?_)
      · refine zw_iload_n 67 rfl dX11_others_66 rfl ?_
        exact zw_iretR dX11_others_67 rfl rfl rfl
      · omega
    · intro j hj hN
      refine zw_iload_n 5 rfl dX11_others_4 rfl ?_
      refine zw_aload_n 6 rfl dX11_others_5 rfl ?_
      refine zw_iload_n 7 rfl dX11_others_6 rfl ?_
      refine zw_cVi1 10 rfl dX11_others_7 kX11_others_176 (Nat.le_of_ble_eq_true rfl) (by first | assumption | exact zm_o0 | exact zm_o _ _ _ rfl) (m_highP h) ?_
      refine zw_icmp_ge 66 13 rfl dX11_others_10 (by decide) (by omega) (by omega) (fun h_10 => ?_) (fun h_10 => ?_)
      · omega
      · refine zw_iconst 14 rfl dX11_others_13 ?_
        refine zw_istore 16 rfl dX11_others_14 (Nat.le_of_ble_eq_true rfl) rfl ?_
        exact hN
    · intro j i hj hi hN
      have d1 := h.d (x := i) (y := j) (by omega) (by omega)
      have d2 := hr.d (x := i) (y := j) (by omega) (by omega)
      refine zw_iload 18 rfl dX11_others_16 rfl ?_
      refine zw_aload_n 19 rfl dX11_others_18 rfl ?_
      refine zw_iload_n 20 rfl dX11_others_19 rfl ?_
      refine zw_cVi1 23 rfl dX11_others_20 kX11_others_170 (Nat.le_of_ble_eq_true rfl) (by first | assumption | exact zm_o0 | exact zm_o _ _ _ rfl) (m_wideP h) ?_
      refine zw_icmp_ge 60 26 rfl dX11_others_23 (by decide) (by omega) (by omega) (fun h_23 => ?_) (fun h_23 => ?_)
      · omega
      · refine zw_iload_n 27 rfl dX11_others_26 rfl ?_
        refine zw_aload_n 28 rfl dX11_others_27 rfl ?_
        refine zw_bipush 30 rfl dX11_others_28 rfl ?_
        refine zw_iload 32 rfl dX11_others_30 rfl ?_
        refine zw_iload_n 33 rfl dX11_others_32 rfl ?_
        refine zw_cVi3 36 rfl dX11_others_33 kX11_others_182 (Nat.le_of_ble_eq_true rfl) (by first | assumption | exact zm_o0 | exact zm_o _ _ _ rfl) (m_dotP hr (by omega) (by omega)) ?_
        refine zw_aload_n 37 rfl dX11_others_36 rfl ?_
        refine zw_iload_n 38 rfl dX11_others_37 rfl ?_
        refine zw_iload 40 rfl dX11_others_38 rfl ?_
        refine zw_iload_n 41 rfl dX11_others_40 rfl ?_
        refine zw_cVi3 44 rfl dX11_others_41 kX11_others_182 (Nat.le_of_ble_eq_true rfl) (by first | assumption | exact zm_o0 | exact zm_o _ _ _ rfl) (m_dotP h (by omega) (by omega)) ?_
        refine zw_icmp_ne 51 47 rfl dX11_others_44 (by decide) (by omega) (by omega) (fun h_44 => ?_) (fun h_44 => ?_)
        · refine zw_iconst 52 rfl dX11_others_51 ?_
          refine zw_iadd 53 rfl dX11_others_52 ?_
          refine zw_istore_n 54 rfl dX11_others_53 (Nat.le_of_ble_eq_true rfl) rfl ?_
          refine zw_iinc 57 rfl dX11_others_54 (Nat.le_of_ble_eq_true rfl) rfl rfl ?_
          refine zw_goto 16 dX11_others_57 (by decide) ?_
          rw [zpt_s, hF'] at hN
          first | (rw [if_pos h_44] at hN) | (rw [if_neg h_44] at hN)
          exact hN
        · refine zw_iconst 48 rfl dX11_others_47 ?_
          refine zw_goto 52 dX11_others_48 (by decide) ?_
          refine zw_iadd 53 rfl dX11_others_52 ?_
          refine zw_istore_n 54 rfl dX11_others_53 (Nat.le_of_ble_eq_true rfl) rfl ?_
          refine zw_iinc 57 rfl dX11_others_54 (Nat.le_of_ble_eq_true rfl) rfl rfl ?_
          refine zw_goto 16 dX11_others_57 (by decide) ?_
          rw [zpt_s, hF'] at hN
          first | (rw [if_pos h_44] at hN) | (rw [if_neg h_44] at hN)
          exact hN
    · intro j hj hO
      refine zw_iload 18 rfl dX11_others_16 rfl ?_
      refine zw_aload_n 19 rfl dX11_others_18 rfl ?_
      refine zw_iload_n 20 rfl dX11_others_19 rfl ?_
      refine zw_cVi1 23 rfl dX11_others_20 kX11_others_170 (Nat.le_of_ble_eq_true rfl) (by first | assumption | exact zm_o0 | exact zm_o _ _ _ rfl) (m_wideP h) ?_
      refine zw_icmp_ge 60 26 rfl dX11_others_23 (by decide) (by omega) (by omega) (fun h_23 => ?_) (fun h_23 => ?_)
      · refine zw_iinc 63 rfl dX11_others_60 (Nat.le_of_ble_eq_true rfl) rfl rfl ?_
        refine zw_goto 4 dX11_others_63 (by decide) ?_
        refine zw_drop 4 ?_
        exact hO
      · omega
  refine zw_iconst 1 rfl dX11_others_0 ?_
  refine zw_istore_n 2 rfl dX11_others_1 (Nat.le_of_ble_eq_true rfl) rfl ?_
  refine zw_iconst 3 rfl dX11_others_2 ?_
  refine zw_istore_n 4 rfl dX11_others_3 (Nat.le_of_ble_eq_true rfl) rfl ?_
  exact key
theorem m_manyOf {G : zG} {C : Nat} {σ τ : zSt} {p v : Int} {q : zPc} (h : mPc C σ p q) (hv : -2147483648 ≤ v ∧ v ≤ 2147483647) : zC G M_X11_manyOf [.ref C, vi p, vi v] (zmS C, σ, τ) (zR (some (vi (aMany q v))) (zmS C, σ, τ)) := by
  have hw := h.wh
  refine zC_of 3 rfl (Nat.le_of_ble_eq_true rfl) ?_
  unfold aMany
  rw [zpt_e]
  generalize hF : (fun (x y n : Int) => n + if q.2.2 x y = v then (1 : Int) else 0) = F
  have hF' : ∀ x y n, F x y n = n + if q.2.2 x y = v then (1 : Int) else 0 := fun x y n => by rw [← hF]
  have key : zW G M_X11_manyOf (zR (some (vi (zpt q.1 F 0 q.2.1.toNat 0))) (zmS C, σ, τ)) 5 [some (.ref C), some (vi p), some (vi v), some (vi (zpt q.1 F 0 0 0)), some (vi (0 : Nat)), none] [] (zmS C, σ, τ) := by
    refine zrows (w := q.1.toNat) (h := q.2.1.toNat) (O := fun j => zW G M_X11_manyOf (zR (some (vi (zpt q.1 F 0 q.2.1.toNat 0))) (zmS C, σ, τ)) 5 [some (.ref C), some (vi p), some (vi v), some (vi (zpt q.1 F 0 j 0)), some (vi j), none] [] (zmS C, σ, τ)) (N := fun j i => zW G M_X11_manyOf (zR (some (vi (zpt q.1 F 0 q.2.1.toNat 0))) (zmS C, σ, τ)) 18 [some (.ref C), some (vi p), some (vi v), some (vi (zpt q.1 F 0 j i)), some (vi j), some (vi i)] [] (zmS C, σ, τ)) ?_ ?_ ?_ ?_
    · refine zw_iload 7 rfl dX11_manyOf_5 rfl ?_
      refine zw_aload_n 8 rfl dX11_manyOf_7 rfl ?_
      refine zw_iload_n 9 rfl dX11_manyOf_8 rfl ?_
      refine zw_cVi1 12 rfl dX11_manyOf_9 kX11_manyOf_176 (Nat.le_of_ble_eq_true rfl) (by first | assumption | exact zm_o0 | exact zm_o _ _ _ rfl) (m_highP h) ?_
      refine zw_icmp_ge 61 15 rfl dX11_manyOf_12 (by decide) (by omega) (by omega) (fun h_12 => ?_) (fun h_12 => ?_)
      · refine zw_iload_n 62 rfl dX11_manyOf_61 rfl ?_
        exact zw_iretR dX11_manyOf_62 rfl rfl rfl
      · omega
    · intro j hj hN
      refine zw_iload 7 rfl dX11_manyOf_5 rfl ?_
      refine zw_aload_n 8 rfl dX11_manyOf_7 rfl ?_
      refine zw_iload_n 9 rfl dX11_manyOf_8 rfl ?_
      refine zw_cVi1 12 rfl dX11_manyOf_9 kX11_manyOf_176 (Nat.le_of_ble_eq_true rfl) (by first | assumption | exact zm_o0 | exact zm_o _ _ _ rfl) (m_highP h) ?_
      refine zw_icmp_ge 61 15 rfl dX11_manyOf_12 (by decide) (by omega) (by omega) (fun h_12 => ?_) (fun h_12 => ?_)
      · omega
      · refine zw_iconst 16 rfl dX11_manyOf_15 ?_
        refine zw_istore 18 rfl dX11_manyOf_16 (Nat.le_of_ble_eq_true rfl) rfl ?_
        exact hN
    · intro j i hj hi hN
      have d1 := h.d (x := i) (y := j) (by omega) (by omega)
      refine zw_iload 20 rfl dX11_manyOf_18 rfl ?_
      refine zw_aload_n 21 rfl dX11_manyOf_20 rfl ?_
      refine zw_iload_n 22 rfl dX11_manyOf_21 rfl ?_
      refine zw_cVi1 25 rfl dX11_manyOf_22 kX11_manyOf_170 (Nat.le_of_ble_eq_true rfl) (by first | assumption | exact zm_o0 | exact zm_o _ _ _ rfl) (m_wideP h) ?_
      refine zw_icmp_ge 55 28 rfl dX11_manyOf_25 (by decide) (by omega) (by omega) (fun h_25 => ?_) (fun h_25 => ?_)
      · omega
      · refine zw_iload_n 29 rfl dX11_manyOf_28 rfl ?_
        refine zw_aload_n 30 rfl dX11_manyOf_29 rfl ?_
        refine zw_iload_n 31 rfl dX11_manyOf_30 rfl ?_
        refine zw_iload 33 rfl dX11_manyOf_31 rfl ?_
        refine zw_iload 35 rfl dX11_manyOf_33 rfl ?_
        refine zw_cVi3 38 rfl dX11_manyOf_35 kX11_manyOf_182 (Nat.le_of_ble_eq_true rfl) (by first | assumption | exact zm_o0 | exact zm_o _ _ _ rfl) (m_dotP h (by omega) (by omega)) ?_
        refine zw_iload_n 39 rfl dX11_manyOf_38 rfl ?_
        refine zw_icmp_ne 46 42 rfl dX11_manyOf_39 (by decide) (by omega) (by omega) (fun h_39 => ?_) (fun h_39 => ?_)
        · refine zw_iconst 47 rfl dX11_manyOf_46 ?_
          refine zw_iadd 48 rfl dX11_manyOf_47 ?_
          refine zw_istore_n 49 rfl dX11_manyOf_48 (Nat.le_of_ble_eq_true rfl) rfl ?_
          refine zw_iinc 52 rfl dX11_manyOf_49 (Nat.le_of_ble_eq_true rfl) rfl rfl ?_
          refine zw_goto 18 dX11_manyOf_52 (by decide) ?_
          rw [zpt_s, hF'] at hN
          first | (rw [if_pos h_39] at hN) | (rw [if_neg h_39] at hN)
          exact hN
        · refine zw_iconst 43 rfl dX11_manyOf_42 ?_
          refine zw_goto 47 dX11_manyOf_43 (by decide) ?_
          refine zw_iadd 48 rfl dX11_manyOf_47 ?_
          refine zw_istore_n 49 rfl dX11_manyOf_48 (Nat.le_of_ble_eq_true rfl) rfl ?_
          refine zw_iinc 52 rfl dX11_manyOf_49 (Nat.le_of_ble_eq_true rfl) rfl rfl ?_
          refine zw_goto 18 dX11_manyOf_52 (by decide) ?_
          rw [zpt_s, hF'] at hN
          first | (rw [if_pos h_39] at hN) | (rw [if_neg h_39] at hN)
          exact hN
    · intro j hj hO
      refine zw_iload 20 rfl dX11_manyOf_18 rfl ?_
      refine zw_aload_n 21 rfl dX11_manyOf_20 rfl ?_
      refine zw_iload_n 22 rfl dX11_manyOf_21 rfl ?_
      refine zw_cVi1 25 rfl dX11_manyOf_22 kX11_manyOf_170 (Nat.le_of_ble_eq_true rfl) (by first | assumption | exact zm_o0 | exact zm_o _ _ _ rfl) (m_wideP h) ?_
      refine zw_icmp_ge 55 28 rfl dX11_manyOf_25 (by decide) (by omega) (by omega) (fun h_25 => ?_) (fun h_25 => ?_)
      · refine zw_iinc 58 rfl dX11_manyOf_55 (Nat.le_of_ble_eq_true rfl) rfl rfl ?_
        refine zw_goto 5 dX11_manyOf_58 (by decide) ?_
        refine zw_drop 5 ?_
        exact hO
      · omega
  refine zw_iconst 1 rfl dX11_manyOf_0 ?_
  refine zw_istore_n 2 rfl dX11_manyOf_1 (Nat.le_of_ble_eq_true rfl) rfl ?_
  refine zw_iconst 3 rfl dX11_manyOf_2 ?_
  refine zw_istore 5 rfl dX11_manyOf_3 (Nat.le_of_ble_eq_true rfl) rfl ?_
  exact key
