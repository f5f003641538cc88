/-! ===== where a dot lies between the nodes ===== -/
theorem m_nodeAt {G : zG} {S : zSh} {σ τ : zSt} {i j k : Int} : zC G M_X11_nodeAt [vi i, vi j, vi k] (S, σ, τ) (zR (some (vi (((i + 3) * 19 + j + 3) * 39 + k + 3))) (S, σ, τ)) := by
  refine zC_of 0 rfl (Nat.le_of_ble_eq_true rfl) ?_
  refine zw_iload_n 1 rfl dX11_nodeAt_0 rfl ?_
  refine zw_iconst 2 rfl dX11_nodeAt_1 ?_
  refine zw_iadd 3 rfl dX11_nodeAt_2 ?_
  refine zw_bipush 5 rfl dX11_nodeAt_3 rfl ?_
  refine zw_imul 6 rfl dX11_nodeAt_5 ?_
  refine zw_iload_n 7 rfl dX11_nodeAt_6 rfl ?_
  refine zw_iadd 8 rfl dX11_nodeAt_7 ?_
  refine zw_iconst 9 rfl dX11_nodeAt_8 ?_
  refine zw_iadd 10 rfl dX11_nodeAt_9 ?_
  refine zw_bipush 12 rfl dX11_nodeAt_10 rfl ?_
  refine zw_imul 13 rfl dX11_nodeAt_12 ?_
  refine zw_iload_n 14 rfl dX11_nodeAt_13 rfl ?_
  refine zw_iadd 15 rfl dX11_nodeAt_14 ?_
  refine zw_iconst 16 rfl dX11_nodeAt_15 ?_
  refine zw_iadd 17 rfl dX11_nodeAt_16 ?_
  exact zw_iretR dX11_nodeAt_17 rfl rfl rfl
/-- steps at half g -/
def mSR (C : Nat) (σ : zSt) (g : Nat) (s r : Int) : Prop := g < 2 ∧ σ (C + 15) g = s ∧ σ (C + 16) g = r ∧ (1 ≤ s ∧ s ≤ 8) ∧ 8 ≤ r ∧ r ≤ 128
/-- a dot lies, as lies tells -/
def mLy (C : Nat) (x y v s r : Int) (σs : zSt) : Prop := σs C 33 = (mNo (x / s) (y / s) (v / r) : Nat) ∧ σs C 34 = x % s ∧ σs C 35 = y % s ∧ σs C 36 = v % r
def mFr (C : Nat) (σ σ' : zSt) : Prop := ∀ b j, ¬ (b = C ∧ 33 ≤ j ∧ j ≤ 36) → σ' b j = σ b j
theorem zz_dq {v z M : Int} (hz : 0 < z) (hv : 0 ≤ v ∧ v ≤ M) : (0 ≤ v / z ∧ v / z ≤ M) ∧ 0 ≤ v % z ∧ v % z < z := by
  have h1 := zz_rem (v := v) (z := z) hz
  have h2 := zz_quo (v := v) (z := z) hz hv.1
  omega
theorem zz_d8 {v z : Int} (hz : 8 ≤ z) (hv : 0 ≤ v ∧ v ≤ 255) : 0 ≤ v / z ∧ v / z ≤ 31 := zz_q31 (Or.inr ⟨hv.1, hv.2, hz⟩)
theorem m_lies {G : zG} {C : Nat} {σ τ : zSt} {g : Nat} {x y v s r : Int} (h : mSR C σ g s r) (hx : 0 ≤ x ∧ x ≤ 15) (hy : 0 ≤ y ∧ y ≤ 11) (hv : 0 ≤ v ∧ v ≤ 255) : zC G M_X11_lies [.ref C, vi (g : Int), vi x, vi y, vi v] (zmS C, σ, τ) (fun w w' => w = none ∧ ∃ σ' : zSt, w' = (zmS C, σ', τ) ∧ mFr C σ σ' ∧ mLy C x y v s r σ') := by
  obtain ⟨g0, h1, h2, h3, h4⟩ := h
  have q1 := zz_dq (v := x) (z := s) (by omega) hx
  have q2 := zz_dq (v := y) (z := s) (by omega) hy
  have q3 := zz_d8 (v := v) (z := r) (by omega) hv
  have q4 := zz_rem (v := v) (z := r) (by omega)
  refine zC_of 0 rfl (Nat.le_of_ble_eq_true rfl) ?_
  refine zw_aload_n 1 rfl dX11_lies_0 rfl ?_
  refine zw_iload_n 2 rfl dX11_lies_1 rfl ?_
  refine zw_aload_n 3 rfl dX11_lies_2 rfl ?_
  refine zw_getr 6 rfl dX11_lies_3 fl_X11_58 (by first | assumption | exact zm_o0 | exact zm_o _ _ _ rfl) (by first | assumption | exact zm_f _ _ rfl) ?_
  refine zw_iload_n 7 rfl dX11_lies_6 rfl ?_
  refine zw_iald 8 rfl dX11_lies_7 (by first | assumption | exact zm_o0 | exact zm_o _ _ _ rfl) (by omega) (by omega) ?_
  rw [Int.toNat_natCast, h1]
  refine zw_idiv 9 rfl dX11_lies_8 (by omega) (by omega) ?_
  refine zw_iload_n 10 rfl dX11_lies_9 rfl ?_
  refine zw_aload_n 11 rfl dX11_lies_10 rfl ?_
  refine zw_getr 14 rfl dX11_lies_11 fl_X11_58 (by first | assumption | exact zm_o0 | exact zm_o _ _ _ rfl) (by first | assumption | exact zm_f _ _ rfl) ?_
  refine zw_iload_n 15 rfl dX11_lies_14 rfl ?_
  refine zw_iald 16 rfl dX11_lies_15 (by first | assumption | exact zm_o0 | exact zm_o _ _ _ rfl) (by omega) (by omega) ?_
  rw [Int.toNat_natCast, h1]
  refine zw_idiv 17 rfl dX11_lies_16 (by omega) (by omega) ?_
  refine zw_iload 19 rfl dX11_lies_17 rfl ?_
  refine zw_aload_n 20 rfl dX11_lies_19 rfl ?_
  refine zw_getr 23 rfl dX11_lies_20 fl_X11_61 (by first | assumption | exact zm_o0 | exact zm_o _ _ _ rfl) (by first | assumption | exact zm_f _ _ rfl) ?_
  refine zw_iload_n 24 rfl dX11_lies_23 rfl ?_
  refine zw_iald 25 rfl dX11_lies_24 (by first | assumption | exact zm_o0 | exact zm_o _ _ _ rfl) (by omega) (by omega) ?_
  rw [Int.toNat_natCast, h2]
  refine zw_idiv 26 rfl dX11_lies_25 (by omega) (by omega) ?_
  refine zw_cSi3 29 rfl dX11_lies_26 kX11_lies_216 (Nat.le_of_ble_eq_true rfl) m_nodeAt ?_
  refine zw_puti 32 rfl dX11_lies_29 fp_X11_219 (by first | assumption | exact zm_o0 | exact zm_o _ _ _ rfl) ?_
  refine zw_aload_n 33 rfl dX11_lies_32 rfl ?_
  refine zw_iload_n 34 rfl dX11_lies_33 rfl ?_
  refine zw_aload_n 35 rfl dX11_lies_34 rfl ?_
  refine zw_getr 38 rfl dX11_lies_35 fl_X11_58 (by first | assumption | exact zm_o0 | exact zm_o _ _ _ rfl) (by first | assumption | exact zm_f _ _ rfl) ?_
  refine zw_iload_n 39 rfl dX11_lies_38 rfl ?_
  refine zw_iald 40 rfl dX11_lies_39 (by first | assumption | exact zm_o0 | exact zm_o _ _ _ rfl) (by omega) (by omega) ?_
  rw [Int.toNat_natCast, zu_a _ _ (by omega), h1]
  refine zw_irem 41 rfl dX11_lies_40 (by omega) (by omega) ?_
  refine zw_puti 44 rfl dX11_lies_41 fp_X11_222 (by first | assumption | exact zm_o0 | exact zm_o _ _ _ rfl) ?_
  refine zw_aload_n 45 rfl dX11_lies_44 rfl ?_
  refine zw_iload_n 46 rfl dX11_lies_45 rfl ?_
  refine zw_aload_n 47 rfl dX11_lies_46 rfl ?_
  refine zw_getr 50 rfl dX11_lies_47 fl_X11_58 (by first | assumption | exact zm_o0 | exact zm_o _ _ _ rfl) (by first | assumption | exact zm_f _ _ rfl) ?_
  refine zw_iload_n 51 rfl dX11_lies_50 rfl ?_
  refine zw_iald 52 rfl dX11_lies_51 (by first | assumption | exact zm_o0 | exact zm_o _ _ _ rfl) (by omega) (by omega) ?_
  rw [Int.toNat_natCast, zu_a _ _ (by omega), zu_a _ _ (by omega), h1]
  refine zw_irem 53 rfl dX11_lies_52 (by omega) (by omega) ?_
  refine zw_puti 56 rfl dX11_lies_53 fp_X11_225 (by first | assumption | exact zm_o0 | exact zm_o _ _ _ rfl) ?_
  refine zw_aload_n 57 rfl dX11_lies_56 rfl ?_
  refine zw_iload 59 rfl dX11_lies_57 rfl ?_
  refine zw_aload_n 60 rfl dX11_lies_59 rfl ?_
  refine zw_getr 63 rfl dX11_lies_60 fl_X11_61 (by first | assumption | exact zm_o0 | exact zm_o _ _ _ rfl) (by first | assumption | exact zm_f _ _ rfl) ?_
  refine zw_iload_n 64 rfl dX11_lies_63 rfl ?_
  refine zw_iald 65 rfl dX11_lies_64 (by first | assumption | exact zm_o0 | exact zm_o _ _ _ rfl) (by omega) (by omega) ?_
  rw [Int.toNat_natCast, zu_a _ _ (by omega), zu_a _ _ (by omega), zu_a _ _ (by omega), h2]
  refine zw_irem 66 rfl dX11_lies_65 (by omega) (by omega) ?_
  refine zw_puti 69 rfl dX11_lies_66 fp_X11_228 (by first | assumption | exact zm_o0 | exact zm_o _ _ _ rfl) ?_
  refine zw_vret (st := []) dX11_lies_69 rfl ⟨rfl, _, rfl, fun b j hb => ?_, ?_, ?_, ?_, ?_⟩
  · rw [zu_ne _ _ (by omega), zu_ne _ _ (by omega), zu_ne _ _ (by omega), zu_ne _ _ (by omega)]
  · rw [zu_k _ _ (by omega), zu_k _ _ (by omega), zu_k _ _ (by omega), zu_eq]; unfold mNo; omega
  · rw [zu_k _ _ (by omega), zu_k _ _ (by omega), zu_eq]
  · rw [zu_k _ _ (by omega), zu_eq]
  · rw [zu_eq]
/-- parts of the eight nodes -/
def mPa (x s m : Int) : Int := if m = 0 then s - x % s else x % s
def mPt (x y v s r : Int) (m : Nat) : Int := mPa x s ((m / 4 : Nat) : Int) * mPa y s ((m / 2 % 2 : Nat) : Int) * mPa v r ((m % 2 : Nat) : Int)
def mNd (x y v s r : Int) (m : Nat) : Nat := mNo (x / s + (m / 4 : Nat)) (y / s + (m / 2 % 2 : Nat)) (v / r + (m % 2 : Nat))
theorem mPa_r {x s m M : Int} (hs : 1 ≤ s ∧ s ≤ M) : 0 ≤ mPa x s m ∧ mPa x s m ≤ M := by
  have := zz_rem (v := x) (z := s) (by omega)
  unfold mPa; split <;> omega
theorem mPt_r {x y v s r : Int} {m : Nat} (hs : 1 ≤ s ∧ s ≤ 8) (hr : 8 ≤ r ∧ r ≤ 128) : 0 ≤ mPt x y v s r m ∧ mPt x y v s r m ≤ 8 * 8 * 128 := zz_m2 (zz_m2 (mPa_r hs) (mPa_r hs)) (mPa_r ⟨by omega, hr.2⟩)
theorem m_nodeOf {G : zG} {C : Nat} {σ τ : zSt} {x y v s r : Int} {m : Nat} (h : mLy C x y v s r σ) (hm : m < 8) (hx : 0 ≤ x ∧ x ≤ 15) (hy : 0 ≤ y ∧ y ≤ 11) (hv : 0 ≤ v ∧ v ≤ 255) (hs : 1 ≤ s ∧ s ≤ 8) (hr : 8 ≤ r ∧ r ≤ 128) : zC G M_X11_nodeOf [.ref C, vi (m : Int)] (zmS C, σ, τ) (zR (some (vi (mNd x y v s r m : Nat))) (zmS C, σ, τ)) := by
  have q1 := zz_dq (v := x) (z := s) (by omega) hx
  have q2 := zz_dq (v := y) (z := s) (by omega) hy
  have q3 := zz_d8 (v := v) (z := r) (by omega) hv
  refine zC_of 0 rfl (Nat.le_of_ble_eq_true rfl) ?_
  refine zw_aload_n 1 rfl dX11_nodeOf_0 rfl ?_
  refine zw_geti 4 rfl dX11_nodeOf_1 fl_X11_219 (by first | assumption | exact zm_o0 | exact zm_o _ _ _ rfl) ?_
  rw [h.1]
  refine zw_iload_n 5 rfl dX11_nodeOf_4 rfl ?_
  refine zw_iconst 6 rfl dX11_nodeOf_5 ?_
  refine zw_idiv 7 rfl dX11_nodeOf_6 (by omega) (by omega) ?_
  refine zw_bipush 9 rfl dX11_nodeOf_7 rfl ?_
  refine zw_imul 10 rfl dX11_nodeOf_9 ?_
  refine zw_bipush 12 rfl dX11_nodeOf_10 rfl ?_
  refine zw_imul 13 rfl dX11_nodeOf_12 ?_
  refine zw_iadd 14 rfl dX11_nodeOf_13 ?_
  refine zw_iload_n 15 rfl dX11_nodeOf_14 rfl ?_
  refine zw_iconst 16 rfl dX11_nodeOf_15 ?_
  refine zw_idiv 17 rfl dX11_nodeOf_16 (by omega) (by omega) ?_
  refine zw_iconst 18 rfl dX11_nodeOf_17 ?_
  refine zw_irem 19 rfl dX11_nodeOf_18 (by omega) (by omega) ?_
  refine zw_bipush 21 rfl dX11_nodeOf_19 rfl ?_
  refine zw_imul 22 rfl dX11_nodeOf_21 ?_
  refine zw_iadd 23 rfl dX11_nodeOf_22 ?_
  refine zw_iload_n 24 rfl dX11_nodeOf_23 rfl ?_
  refine zw_iconst 25 rfl dX11_nodeOf_24 ?_
  refine zw_irem 26 rfl dX11_nodeOf_25 (by omega) (by omega) ?_
  refine zw_iadd 27 rfl dX11_nodeOf_26 ?_
  exact zw_iretR dX11_nodeOf_27 rfl (by unfold mNd mNo; omega) rfl
theorem mNd_r {x y v s r : Int} {m : Nat} (hx : 0 ≤ x ∧ x ≤ 15) (hy : 0 ≤ y ∧ y ≤ 11) (hv : 0 ≤ v ∧ v ≤ 255) (hs : 1 ≤ s ∧ s ≤ 8) (hr : 8 ≤ r ∧ r ≤ 128) (hm : m < 8) : mNd x y v s r m < 17043 ∧ mnI (mNd x y v s r m) = x / s + (m / 4 : Nat) ∧ mnJ (mNd x y v s r m) = y / s + (m / 2 % 2 : Nat) ∧ mnK (mNd x y v s r m) = v / r + (m % 2 : Nat) := by
  have q1 := zz_dq (v := x) (z := s) (by omega) hx
  have q2 := zz_dq (v := y) (z := s) (by omega) hy
  have q3 := zz_d8 (v := v) (z := r) (by omega) hv
  have := mnMo (i := x / s + (m / 4 : Nat)) (j := y / s + (m / 2 % 2 : Nat)) (k := v / r + (m % 2 : Nat)) (by omega) (by omega) (by omega)
  exact ⟨(mNo_r (by omega) (by omega) (by omega)).1, this⟩
theorem m_partOf {G : zG} {C : Nat} {σ τ : zSt} {g : Nat} {x y v s r : Int} {m : Nat} (hg : mSR C σ g s r) (h : mLy C x y v s r σ) (hm : m < 8) : zC G M_X11_partOf [.ref C, vi (g : Int), vi (m : Int)] (zmS C, σ, τ) (zR (some (vl (mPt x y v s r m))) (zmS C, σ, τ)) := by
  obtain ⟨g0, h1, h2, h3, h4⟩ := hg
  obtain ⟨l1, l2, l3, l4⟩ := h
  have r1 := zz_rem (v := x) (z := s) (by omega)
  have r2 := zz_rem (v := y) (z := s) (by omega)
  have r3 := zz_rem (v := v) (z := r) (by omega)
  have c1 : ((m : Int) / 4 = 0 → mPa x s ((m / 4 : Nat) : Int) = s - x % s) ∧ (¬ (m : Int) / 4 = 0 → mPa x s ((m / 4 : Nat) : Int) = x % s) := ⟨fun e => if_pos (by omega), fun e => if_neg (by omega)⟩
  have c2 : ((m : Int) / 2 % 2 = 0 → mPa y s ((m / 2 % 2 : Nat) : Int) = s - y % s) ∧ (¬ (m : Int) / 2 % 2 = 0 → mPa y s ((m / 2 % 2 : Nat) : Int) = y % s) := ⟨fun e => if_pos (by omega), fun e => if_neg (by omega)⟩
  have c3 : ((m : Int) % 2 = 0 → mPa v r ((m % 2 : Nat) : Int) = r - v % r) ∧ (¬ (m : Int) % 2 = 0 → mPa v r ((m % 2 : Nat) : Int) = v % r) := ⟨fun e => if_pos (by omega), fun e => if_neg (by omega)⟩
  refine zC_of 4 rfl (Nat.le_of_ble_eq_true rfl) ?_
  have K3 : zW G M_X11_partOf (zR (some (vl (mPt x y v s r m))) (zmS C, σ, τ)) 57 [some (.ref C), some (vi (g : Int)), some (vi (m : Int)), some (vl (mPa x s ((m / 4 : Nat) : Int))), none, some (vl (mPa y s ((m / 2 % 2 : Nat) : Int))), none] [] (zmS C, σ, τ) := by
    refine zw_lload_n 58 rfl dX11_partOf_57 rfl ?_
    refine zw_lload 60 rfl dX11_partOf_58 rfl ?_
    refine zw_lmul 61 rfl dX11_partOf_60 ?_
    refine zw_iload_n 62 rfl dX11_partOf_61 rfl ?_
    refine zw_iconst 63 rfl dX11_partOf_62 ?_
    refine zw_irem 64 rfl dX11_partOf_63 (by omega) (by omega) ?_
    refine zw_if_ne 81 67 rfl dX11_partOf_64 (by decide) (by omega) (fun h_64 => ?_) (fun h_64 => ?_)
    · refine zw_aload_n 82 rfl dX11_partOf_81 rfl ?_
      refine zw_geti 85 rfl dX11_partOf_82 fl_X11_228 (by first | assumption | exact zm_o0 | exact zm_o _ _ _ rfl) ?_
      first | (rw [← c3.1 h_64]) | (rw [l4, ← c3.2 h_64])
      have cr := mPa_r (x := v) (s := r) (m := ((m % 2 : Nat) : Int)) (M := 128) (by omega)
      refine zw_i2l 86 rfl dX11_partOf_85 (by omega) ?_
      refine zw_lmul 87 rfl dX11_partOf_86 ?_
      exact zw_lretR dX11_partOf_87 rfl rfl rfl
    · refine zw_aload_n 68 rfl dX11_partOf_67 rfl ?_
      refine zw_getr 71 rfl dX11_partOf_68 fl_X11_61 (by first | assumption | exact zm_o0 | exact zm_o _ _ _ rfl) (by first | assumption | exact zm_f _ _ rfl) ?_
      refine zw_iload_n 72 rfl dX11_partOf_71 rfl ?_
      refine zw_iald 73 rfl dX11_partOf_72 (by first | assumption | exact zm_o0 | exact zm_o _ _ _ rfl) (by omega) (by omega) ?_
      rw [Int.toNat_natCast, h2]
      refine zw_aload_n 74 rfl dX11_partOf_73 rfl ?_
      refine zw_geti 77 rfl dX11_partOf_74 fl_X11_228 (by first | assumption | exact zm_o0 | exact zm_o _ _ _ rfl) ?_
      rw [l4]
      refine zw_isub 78 rfl dX11_partOf_77 ?_
      refine zw_goto 85 dX11_partOf_78 (by decide) ?_
      first | (rw [← c3.1 h_64]) | (rw [l4, ← c3.2 h_64])
      have cr := mPa_r (x := v) (s := r) (m := ((m % 2 : Nat) : Int)) (M := 128) (by omega)
      refine zw_i2l 86 rfl dX11_partOf_85 (by omega) ?_
      refine zw_lmul 87 rfl dX11_partOf_86 ?_
      exact zw_lretR dX11_partOf_87 rfl rfl rfl
  have K2 : zW G M_X11_partOf (zR (some (vl (mPt x y v s r m))) (zmS C, σ, τ)) 27 [some (.ref C), some (vi (g : Int)), some (vi (m : Int)), some (vl (mPa x s ((m / 4 : Nat) : Int))), none, none, none] [] (zmS C, σ, τ) := by
    refine zw_iload_n 28 rfl dX11_partOf_27 rfl ?_
    refine zw_iconst 29 rfl dX11_partOf_28 ?_
    refine zw_idiv 30 rfl dX11_partOf_29 (by omega) (by omega) ?_
    refine zw_iconst 31 rfl dX11_partOf_30 ?_
    refine zw_irem 32 rfl dX11_partOf_31 (by omega) (by omega) ?_
    refine zw_if_ne 50 35 rfl dX11_partOf_32 (by decide) (by omega) (fun h_32 => ?_) (fun h_32 => ?_)
    · refine zw_aload_n 51 rfl dX11_partOf_50 rfl ?_
      refine zw_geti 54 rfl dX11_partOf_51 fl_X11_225 (by first | assumption | exact zm_o0 | exact zm_o _ _ _ rfl) ?_
      rw [l3]
      refine zw_i2l 55 rfl dX11_partOf_54 (by omega) ?_
      first | (rw [← c2.1 h_32]) | (rw [← c2.2 h_32])
      refine zw_lstore 57 rfl dX11_partOf_55 (Nat.le_of_ble_eq_true rfl) rfl ?_
      exact K3
    · refine zw_aload_n 36 rfl dX11_partOf_35 rfl ?_
      refine zw_getr 39 rfl dX11_partOf_36 fl_X11_58 (by first | assumption | exact zm_o0 | exact zm_o _ _ _ rfl) (by first | assumption | exact zm_f _ _ rfl) ?_
      refine zw_iload_n 40 rfl dX11_partOf_39 rfl ?_
      refine zw_iald 41 rfl dX11_partOf_40 (by first | assumption | exact zm_o0 | exact zm_o _ _ _ rfl) (by omega) (by omega) ?_
      rw [Int.toNat_natCast, h1]
      refine zw_aload_n 42 rfl dX11_partOf_41 rfl ?_
      refine zw_geti 45 rfl dX11_partOf_42 fl_X11_225 (by first | assumption | exact zm_o0 | exact zm_o _ _ _ rfl) ?_
      rw [l3]
      refine zw_isub 46 rfl dX11_partOf_45 ?_
      refine zw_i2l 47 rfl dX11_partOf_46 (by omega) ?_
      refine zw_goto 55 dX11_partOf_47 (by decide) ?_
      first | (rw [← c2.1 h_32]) | (rw [← c2.2 h_32])
      refine zw_lstore 57 rfl dX11_partOf_55 (Nat.le_of_ble_eq_true rfl) rfl ?_
      exact K3
  refine zw_iload_n 1 rfl dX11_partOf_0 rfl ?_
  refine zw_iconst 2 rfl dX11_partOf_1 ?_
  refine zw_idiv 3 rfl dX11_partOf_2 (by omega) (by omega) ?_
  refine zw_if_ne 21 6 rfl dX11_partOf_3 (by decide) (by omega) (fun h_3 => ?_) (fun h_3 => ?_)
  · refine zw_aload_n 22 rfl dX11_partOf_21 rfl ?_
    refine zw_geti 25 rfl dX11_partOf_22 fl_X11_222 (by first | assumption | exact zm_o0 | exact zm_o _ _ _ rfl) ?_
    rw [l2]
    refine zw_i2l 26 rfl dX11_partOf_25 (by omega) ?_
    first | (rw [← c1.1 h_3]) | (rw [← c1.2 h_3])
    refine zw_lstore_n 27 rfl dX11_partOf_26 (Nat.le_of_ble_eq_true rfl) rfl ?_
    exact K2
  · refine zw_aload_n 7 rfl dX11_partOf_6 rfl ?_
    refine zw_getr 10 rfl dX11_partOf_7 fl_X11_58 (by first | assumption | exact zm_o0 | exact zm_o _ _ _ rfl) (by first | assumption | exact zm_f _ _ rfl) ?_
    refine zw_iload_n 11 rfl dX11_partOf_10 rfl ?_
    refine zw_iald 12 rfl dX11_partOf_11 (by first | assumption | exact zm_o0 | exact zm_o _ _ _ rfl) (by omega) (by omega) ?_
    rw [Int.toNat_natCast, h1]
    refine zw_aload_n 13 rfl dX11_partOf_12 rfl ?_
    refine zw_geti 16 rfl dX11_partOf_13 fl_X11_222 (by first | assumption | exact zm_o0 | exact zm_o _ _ _ rfl) ?_
    rw [l2]
    refine zw_isub 17 rfl dX11_partOf_16 ?_
    refine zw_i2l 18 rfl dX11_partOf_17 (by omega) ?_
    refine zw_goto 26 dX11_partOf_18 (by decide) ?_
    first | (rw [← c1.1 h_3]) | (rw [← c1.2 h_3])
    refine zw_lstore_n 27 rfl dX11_partOf_26 (Nat.le_of_ble_eq_true rfl) rfl ?_
    exact K2
/-- what the eight nodes get together is what a dot gives -/
theorem mGive {x y v s r : Int} {n : Nat} (hn : n < 17043) (hx : 0 ≤ x ∧ x ≤ 15) (hy : 0 ≤ y ∧ y ≤ 11) (hv : 0 ≤ v ∧ v ≤ 255) (hs : 1 ≤ s ∧ s ≤ 8) (hr : 8 ≤ r ∧ r ≤ 128) : zS (fun m => if n = mNd x y v s r m then mPt x y v s r m else 0) 8 = zgift x (mnI n) s 0 * zgift y (mnJ n) s 0 * zgift v (mnK n) r 0 := by
  have hN := mnIJK hn
  have hM := fun (m : Nat) (hm : m < 8) => mNd_r (m := m) hx hy hv hs hr hm
  have hc : ∀ m : Nat, m < 8 → (n = mNd x y v s r m ↔ mnI n = x / s + (m / 4 : Nat) ∧ mnJ n = y / s + (m / 2 % 2 : Nat) ∧ mnK n = v / r + (m % 2 : Nat)) := fun m hm => by
    constructor
    · intro e; rw [e]; exact (hM m hm).2
    · intro e
      have h4 := hN.2.2.2
      rw [e.1, e.2.1, e.2.2] at h4
      exact h4.symm
  rw [zS_c (g := fun m => if mnI n = x / s + (m / 4 : Nat) ∧ mnJ n = y / s + (m / 2 % 2 : Nat) ∧ mnK n = v / r + (m % 2 : Nat) then mPt x y v s r m else 0) 8 (fun m hm => by
    by_cases q : n = mNd x y v s r m
    · rw [if_pos q, if_pos ((hc m hm).mp q)]
    · rw [if_neg q, if_neg (fun u => q ((hc m hm).mpr u))])]
  rw [zgift_0, zgift_0, zgift_0]
  generalize mnI n = i
  generalize mnJ n = j
  generalize mnK n = k
  have e0 : mPt x y v s r 0 = (s - x % s) * (s - y % s) * (r - v % r) := rfl
  have e1 : mPt x y v s r 1 = (s - x % s) * (s - y % s) * (v % r) := rfl
  have e2 : mPt x y v s r 2 = (s - x % s) * (y % s) * (r - v % r) := rfl
  have e3 : mPt x y v s r 3 = (s - x % s) * (y % s) * (v % r) := rfl
  have e4 : mPt x y v s r 4 = (x % s) * (s - y % s) * (r - v % r) := rfl
  have e5 : mPt x y v s r 5 = (x % s) * (s - y % s) * (v % r) := rfl
  have e6 : mPt x y v s r 6 = (x % s) * (y % s) * (r - v % r) := rfl
  have e7 : mPt x y v s r 7 = (x % s) * (y % s) * (v % r) := rfl
  simp only [zS_s, zS_0, e0, e1, e2, e3, e4, e5, e6, e7]
  generalize x / s = a
  generalize y / s = b
  generalize v / r = c
  generalize s - x % s = A0
  generalize x % s = A1
  generalize s - y % s = B0
  generalize y % s = B1
  generalize r - v % r = C0
  generalize v % r = C1
  have n1 : ∀ u : Int, ¬ u = u + 1 := fun u => by omega
  have n2 : ∀ u : Int, ¬ u + 1 = u := fun u => by omega
  rcases (show i = a ∨ i = a + 1 ∨ (i ≠ a ∧ i ≠ a + 1) by omega) with q1 | q1 | q1 <;> rcases (show j = b ∨ j = b + 1 ∨ (j ≠ b ∧ j ≠ b + 1) by omega) with q2 | q2 | q2 <;> rcases (show k = c ∨ k = c + 1 ∨ (k ≠ c ∧ k ≠ c + 1) by omega) with q3 | q3 | q3 <;> simp [q1, q2, q3, n1, n2]
