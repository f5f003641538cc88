/-! ===== the model's calls ===== -/
theorem m_isTo {G : zG} {S : zSh} {σ τ : zSt} {v : Int} (hv : -2147483648 ≤ v ∧ v ≤ 2147483647) : zC G M_X11_isTo [vi v] (S, σ, τ) (zR (some (vi (zb (aPl v)))) (S, σ, τ)) := by
  refine zC_of 0 rfl (Nat.le_of_ble_eq_true rfl) ?_
  refine zw_iload_n 1 rfl dX11_isTo_0 rfl ?_
  refine zw_iconst 2 rfl dX11_isTo_1 ?_
  refine zw_iconst 3 rfl dX11_isTo_2 ?_
  refine zw_cSi3 6 rfl dX11_isTo_3 kX11_isTo_106 (Nat.le_of_ble_eq_true rfl) (m_in hv (by omega) (by omega)) ?_
  exact zw_zretR dX11_isTo_6 rfl (zb_01 _) rfl rfl
theorem m_nearest {G : zG} {S : zSh} {σ τ : zSt} {u v : Int} (hu : 0 ≤ u ∧ u ≤ 2000000000000000000) (hv : 0 < v ∧ v ≤ 2000000000000000000) : zC G M_X11_nearest [vl u, vl v] (S, σ, τ) (zR (some (vi (znear u v))) (S, σ, τ)) := by
  have h2 := Int.emod_nonneg u (show v ≠ 0 by omega)
  have h3 := Int.emod_lt_of_pos u hv.1
  have e : ∀ a b : Int, (if a < b then (-1 : Int) else if a = b then 0 else 1) ≤ 0 ↔ ¬ b < a := fun a b => by (repeat' split) <;> omega
  refine zC_of 0 rfl (Nat.le_of_ble_eq_true rfl) ?_
  refine zw_ldc2_w 3 rfl dX11_nearest_0 kX11_247 ?_
  refine zw_lload_n 4 rfl dX11_nearest_3 rfl ?_
  refine zw_lload_n 5 rfl dX11_nearest_4 rfl ?_
  refine zw_lrem 6 rfl dX11_nearest_5 (by omega) (by omega) ?_
  refine zw_lmul 7 rfl dX11_nearest_6 ?_
  refine zw_lload_n 8 rfl dX11_nearest_7 rfl ?_
  refine zw_lcmp 9 rfl dX11_nearest_8 (by omega) (by omega) ?_
  refine zw_if_le 20 12 rfl dX11_nearest_9 (by decide) (by (repeat' split) <;> omega) (fun h_9 => ?_) (fun h_9 => ?_)
  · rw [e] at h_9
    refine zw_lload_n 21 rfl dX11_nearest_20 rfl ?_
    refine zw_lload_n 22 rfl dX11_nearest_21 rfl ?_
    refine zw_ldiv 23 rfl dX11_nearest_22 (by omega) (by omega) ?_
    refine zw_l2i 24 rfl dX11_nearest_23 ?_
    exact zw_iretR dX11_nearest_24 rfl (by unfold znear; first | (rw [if_neg h_9]; done) | (rw [if_pos (Decidable.of_not_not h_9)]; rfl)) rfl
  · rw [e] at h_9
    refine zw_lload_n 13 rfl dX11_nearest_12 rfl ?_
    refine zw_lload_n 14 rfl dX11_nearest_13 rfl ?_
    refine zw_ldiv 15 rfl dX11_nearest_14 (by omega) (by omega) ?_
    refine zw_lconst 16 rfl dX11_nearest_15 ?_
    refine zw_ladd 17 rfl dX11_nearest_16 ?_
    refine zw_goto 23 dX11_nearest_17 (by decide) ?_
    refine zw_l2i 24 rfl dX11_nearest_23 ?_
    exact zw_iretR dX11_nearest_24 rfl (by unfold znear; first | (rw [if_neg h_9]; done) | (rw [if_pos (Decidable.of_not_not h_9)]; rfl)) rfl
theorem m_no {G : zG} {C : Nat} {σ τ : zSt} {v : Int} (hv : v ≠ 0) (hr : -2147483648 ≤ v ∧ v ≤ 2147483647) : zC G M_X11_granted [.ref C, vi v] (zmS C, σ, τ) (zR (some (vi 0)) (zmS C, zu (zu σ C 1 v) C 2 (-1), τ)) := by
  have := m_granted (G := G) (C := C) (σ := σ) (τ := τ) hr
  rw [← zb_f hv] at this
  exact this
theorem m_yes {G : zG} {C : Nat} {σ τ : zSt} : zC G M_X11_granted [.ref C, vi 0] (zmS C, σ, τ) (zR (some (vi 1)) (zmS C, zu (zu σ C 1 0) C 2 (-1), τ)) := by
  have := m_granted (G := G) (C := C) (σ := σ) (τ := τ) (v := 0) (by omega)
  rw [← zb_t (rfl : (0 : Int) = 0)] at this
  exact this
/-- what was laid becomes a picture; how many dots are others -/
theorem m_ends {G : zG} {C : Nat} {σ τ : zSt} {P : Nat → zPc} {Hs : List (Nat → zPc)} {p q : zPc} {to of : Int} (hP : mrP (σ (C + 9)) 0 P) (hH : mrH C σ Hs) (hp : mrPic (σ (C + 9)) 1164 p) (h0 : 0 < p.1) (hto : aPl to) (hq : mPc C σ of q) (e1 : p.1 = q.1) (e2 : p.2.1 = q.2.1) : zC G M_X11_ends [.ref C, vi to, vi of] (zmS C, σ, τ) (fun r w' => r = some (vi (aOth p q)) ∧ ∃ σ' : zSt, w' = (zmS C, zu (zu σ' C 1 0) C 2 (-1), τ) ∧ mActed C σ σ' P Hs to.toNat p) := by
  refine zC_of 1 rfl (Nat.le_of_ble_eq_true rfl) ?_
  refine zw_aload_n 1 rfl dX11_ends_0 rfl ?_
  refine zw_iload_n 2 rfl dX11_ends_1 rfl ?_
  refine zw_cVi1 5 rfl dX11_ends_2 kX11_ends_213 (Nat.le_of_ble_eq_true rfl) (by first | assumption | exact zm_o0 | exact zm_o _ _ _ rfl) (m_others hq (hp.n h0) e1 e2) ?_
  refine zw_istore_n 6 rfl dX11_ends_5 (Nat.le_of_ble_eq_true rfl) rfl ?_
  refine zw_aload_n 7 rfl dX11_ends_6 rfl ?_
  refine zw_iload_n 8 rfl dX11_ends_7 rfl ?_
  refine zw_cVr1 11 rfl dX11_ends_8 kX11_ends_203 (Nat.le_of_ble_eq_true rfl) (by first | assumption | exact zm_o0 | exact zm_o _ _ _ rfl) (m_becomes hP hH hp hto) ?_
  rintro _ _ ⟨rfl, σ2, rfl, hA⟩
  refine zw_aload_n 12 rfl dX11_ends_11 rfl ?_
  refine zw_iload_n 13 rfl dX11_ends_12 rfl ?_
  refine zw_cVi1 16 rfl dX11_ends_13 kX11_ends_157 (Nat.le_of_ble_eq_true rfl) (by first | assumption | exact zm_o0 | exact zm_o _ _ _ rfl) m_good ?_
  exact zw_iret (st := []) dX11_ends_16 rfl ⟨rfl, _, rfl, hA⟩
theorem zmR.p {C : Nat} {σ τ : zSt} {A : zA} (h : zmR C σ τ A) : mrP (σ (C + 9)) 0 A.1 := h.1
theorem zmR.hs {C : Nat} {σ τ : zSt} {A : zA} (h : zmR C σ τ A) : mrH C σ A.2.1 := h.2.1
theorem mSame {C : Nat} {σ σ' τ τ' : zSt} {A : zA} (h : zmR C σ τ A) (hs : mScr C σ σ') (ht : mScT C τ τ') (h1 : σ' C 1 = σ C 1) (h2 : σ' C 2 = σ C 2) : zmR C σ' τ' A := by
  have := h.gen hs ht
  rw [h1, h2, h.2.2.2.1.1, h.2.2.2.1.2.1] at this
  exact this
theorem Y_fault {G : zG} {C : Nat} {σ τ : zSt} {A : zA} (h : zmR C σ τ A) : zC G M_X11_fault [.ref C] (zmS C, σ, τ) (mQ C (aFa A, A)) := by
  refine zC_of 0 rfl (Nat.le_of_ble_eq_true rfl) ?_
  refine zw_aload_n 1 rfl dX11_fault_0 rfl ?_
  refine zw_iconst 2 rfl dX11_fault_1 ?_
  refine zw_puti 5 rfl dX11_fault_2 fp_X11_85 (by first | assumption | exact zm_o0 | exact zm_o _ _ _ rfl) ?_
  refine zw_aload_n 6 rfl dX11_fault_5 rfl ?_
  refine zw_geti 9 rfl dX11_fault_6 fl_X11_94 (by first | assumption | exact zm_o0 | exact zm_o _ _ _ rfl) ?_
  exact zw_iret (st := []) dX11_fault_9 rfl ⟨by rw [zu_k _ _ (by omega), h.2.2.2.1.2.2], _, _, rfl, mSame h mThrown mScT.rf (zu_k _ _ (by omega)) (zu_k _ _ (by omega))⟩
theorem Y_where {G : zG} {C : Nat} {σ τ : zSt} {A : zA} (h : zmR C σ τ A) : zC G M_X11_where [.ref C] (zmS C, σ, τ) (mQ C (aWa A, A)) := by
  refine zC_of 0 rfl (Nat.le_of_ble_eq_true rfl) ?_
  refine zw_aload_n 1 rfl dX11_where_0 rfl ?_
  refine zw_iconst 2 rfl dX11_where_1 ?_
  refine zw_puti 5 rfl dX11_where_2 fp_X11_85 (by first | assumption | exact zm_o0 | exact zm_o _ _ _ rfl) ?_
  refine zw_aload_n 6 rfl dX11_where_5 rfl ?_
  refine zw_geti 9 rfl dX11_where_6 fl_X11_9 (by first | assumption | exact zm_o0 | exact zm_o _ _ _ rfl) ?_
  exact zw_iret (st := []) dX11_where_9 rfl ⟨by rw [zu_k _ _ (by omega), h.2.2.2.1.2.1], _, _, rfl, mSame h mThrown mScT.rf (zu_k _ _ (by omega)) (zu_k _ _ (by omega))⟩
theorem Y_trouble {G : zG} {C : Nat} {σ τ : zSt} {A : zA} (h : zmR C σ τ A) : zC G M_X11_trouble [.ref C] (zmS C, σ, τ) (mQ C (aTr A, A)) := by
  refine zC_of 0 rfl (Nat.le_of_ble_eq_true rfl) ?_
  refine zw_aload_n 1 rfl dX11_trouble_0 rfl ?_
  refine zw_iconst 2 rfl dX11_trouble_1 ?_
  refine zw_puti 5 rfl dX11_trouble_2 fp_X11_85 (by first | assumption | exact zm_o0 | exact zm_o _ _ _ rfl) ?_
  refine zw_aload_n 6 rfl dX11_trouble_5 rfl ?_
  refine zw_geti 9 rfl dX11_trouble_6 fl_X11_88 (by first | assumption | exact zm_o0 | exact zm_o _ _ _ rfl) ?_
  exact zw_iret (st := []) dX11_trouble_9 rfl ⟨by rw [zu_k _ _ (by omega), h.2.2.2.1.1], _, _, rfl, mSame h mThrown mScT.rf (zu_k _ _ (by omega)) (zu_k _ _ (by omega))⟩
theorem Y_bytes {G : zG} {C : Nat} {σ τ : zSt} {A : zA} (h : zmR C σ τ A) : zC G M_X11_bytes [.ref C] (zmS C, σ, τ) (mQ C ((aT A).length, A)) := by
  refine zC_of 0 rfl (Nat.le_of_ble_eq_true rfl) ?_
  refine zw_aload_n 1 rfl dX11_bytes_0 rfl ?_
  refine zw_iconst 2 rfl dX11_bytes_1 ?_
  refine zw_puti 5 rfl dX11_bytes_2 fp_X11_85 (by first | assumption | exact zm_o0 | exact zm_o _ _ _ rfl) ?_
  refine zw_aload_n 6 rfl dX11_bytes_5 rfl ?_
  refine zw_geti 9 rfl dX11_bytes_6 fl_X11_91 (by first | assumption | exact zm_o0 | exact zm_o _ _ _ rfl) ?_
  exact zw_iret (st := []) dX11_bytes_9 rfl ⟨by rw [zu_k _ _ (by omega), h.2.2.1.1], _, _, rfl, mSame h mThrown mScT.rf (zu_k _ _ (by omega)) (zu_k _ _ (by omega))⟩
theorem Y_octet {G : zG} {C : Nat} {σ τ : zSt} {A : zA} {k : Int} (h : zmR C σ τ A) (hk : -2147483648 ≤ k ∧ k ≤ 2147483647) : zC G M_X11_octet [.ref C, vi k] (zmS C, σ, τ) (mQ C (sp_octet A k)) := by
  obtain ⟨i1, i2, i3⟩ := h.2.2.2.2.2.2
  have E := mSame h (mThrown (v := 0)) mScT.rf (zu_k _ _ (by omega)) (zu_k _ _ (by omega))
  refine zC_of 0 rfl (Nat.le_of_ble_eq_true rfl) ?_
  refine zw_aload_n 1 rfl dX11_octet_0 rfl ?_
  refine zw_iconst 2 rfl dX11_octet_1 ?_
  refine zw_puti 5 rfl dX11_octet_2 fp_X11_85 (by first | assumption | exact zm_o0 | exact zm_o _ _ _ rfl) ?_
  refine zw_iload_n 6 rfl dX11_octet_5 rfl ?_
  refine zw_iconst 7 rfl dX11_octet_6 ?_
  refine zw_aload_n 8 rfl dX11_octet_7 rfl ?_
  refine zw_geti 11 rfl dX11_octet_8 fl_X11_350 (by first | assumption | exact zm_o0 | exact zm_o _ _ _ rfl) ?_
  rw [zu_k _ _ (by omega), i1]
  refine zw_iconst 12 rfl dX11_octet_11 ?_
  refine zw_isub 13 rfl dX11_octet_12 ?_
  refine zw_cSi3 16 rfl dX11_octet_13 kX11_octet_106 (Nat.le_of_ble_eq_true rfl) (m_in hk (by omega) (by omega)) ?_
  refine zw_if_eqB 28 19 rfl dX11_octet_16 (by decide) (fun h_16 => ?_) (fun h_16 => ?_)
  · refine zw_iconst 29 rfl dX11_octet_28 ?_
    exact zw_iret (st := []) dX11_octet_29 rfl ⟨by unfold sp_octet; first | (rw [if_neg h_16]; done) | (rw [if_pos h_16, zu_row _ _ (by omega), i3 _ (by omega)]), _, _, rfl, E⟩
  · refine zw_aload_n 20 rfl dX11_octet_19 rfl ?_
    refine zw_getr 23 rfl dX11_octet_20 fl_X11_79 (by first | assumption | exact zm_o0 | exact zm_o _ _ _ rfl) (by first | assumption | exact zm_f _ _ rfl) ?_
    refine zw_iload_n 24 rfl dX11_octet_23 rfl ?_
    refine zw_iald 25 rfl dX11_octet_24 (by first | assumption | exact zm_o0 | exact zm_o _ _ _ rfl) (by omega) (by omega) ?_
    refine zw_goto 29 dX11_octet_25 (by decide) ?_
    exact zw_iret (st := []) dX11_octet_29 rfl ⟨by unfold sp_octet; first | (rw [if_neg h_16]; done) | (rw [if_pos h_16, zu_row _ _ (by omega), i3 _ (by omega)]), _, _, rfl, E⟩
theorem Y_dot {G : zG} {C : Nat} {σ τ : zSt} {A : zA} {p x y : Int} (h : zmR C σ τ A) (hp : -2147483648 ≤ p ∧ p ≤ 2147483647) (hx : -2147483648 ≤ x ∧ x ≤ 2147483647) (hy : -2147483648 ≤ y ∧ y ≤ 2147483647) : zC G M_X11_dot [.ref C, vi p, vi x, vi y] (zmS C, σ, τ) (mQ C (sp_dot A p x y)) := by
  have hP := (mThrown (v := 0)).P h.p
  refine zC_of 0 rfl (Nat.le_of_ble_eq_true rfl) ?_
  refine zw_aload_n 1 rfl dX11_dot_0 rfl ?_
  refine zw_iconst 2 rfl dX11_dot_1 ?_
  refine zw_puti 5 rfl dX11_dot_2 fp_X11_85 (by first | assumption | exact zm_o0 | exact zm_o _ _ _ rfl) ?_
  refine zw_aload_n 6 rfl dX11_dot_5 rfl ?_
  refine zw_iload_n 7 rfl dX11_dot_6 rfl ?_
  refine zw_iload_n 8 rfl dX11_dot_7 rfl ?_
  refine zw_iload_n 9 rfl dX11_dot_8 rfl ?_
  refine zw_cVi3 12 rfl dX11_dot_9 kX11_dot_190 (Nat.le_of_ble_eq_true rfl) (by first | assumption | exact zm_o0 | exact zm_o _ _ _ rfl) (m_isDot hP hp hx hy) ?_
  refine zw_if_eqB 29 15 rfl dX11_dot_12 (by decide) (fun h_12 => ?_) (fun h_12 => ?_)
  · refine zw_aload_n 30 rfl dX11_dot_29 rfl ?_
    refine zw_iconst 31 rfl dX11_dot_30 ?_
    refine zw_cVi1 34 rfl dX11_dot_31 kX11_dot_147 (Nat.le_of_ble_eq_true rfl) (by first | assumption | exact zm_o0 | exact zm_o _ _ _ rfl) m_refused ?_
    first | exact zw_iret (st := []) dX11_dot_34 rfl (mRead h mThrown mScT.rf (if_pos h_12) rfl rfl) | exact zw_iret (st := []) dX11_dot_34 rfl (mRef h mThrown mScT.rf (if_neg h_12) (by omega))
  · refine zw_aload_n 16 rfl dX11_dot_15 rfl ?_
    refine zw_aload_n 17 rfl dX11_dot_16 rfl ?_
    refine zw_iload_n 18 rfl dX11_dot_17 rfl ?_
    refine zw_iload_n 19 rfl dX11_dot_18 rfl ?_
    refine zw_iload_n 20 rfl dX11_dot_19 rfl ?_
    refine zw_cVi3 23 rfl dX11_dot_20 kX11_dot_182 (Nat.le_of_ble_eq_true rfl) (by first | assumption | exact zm_o0 | exact zm_o _ _ _ rfl) (m_dotP (hP.pc h_12.1) h_12.2.1 h_12.2.2) ?_
    refine zw_cVi1 26 rfl dX11_dot_23 kX11_dot_157 (Nat.le_of_ble_eq_true rfl) (by first | assumption | exact zm_o0 | exact zm_o _ _ _ rfl) m_good ?_
    refine zw_goto 34 dX11_dot_26 (by decide) ?_
    first | exact zw_iret (st := []) dX11_dot_34 rfl (mRead h mThrown mScT.rf (if_pos h_12) rfl rfl) | exact zw_iret (st := []) dX11_dot_34 rfl (mRef h mThrown mScT.rf (if_neg h_12) (by omega))
theorem Y_often {G : zG} {C : Nat} {σ τ : zSt} {A : zA} {p s : Int} (h : zmR C σ τ A) (hp : -2147483648 ≤ p ∧ p ≤ 2147483647) (hs : -2147483648 ≤ s ∧ s ≤ 2147483647) : zC G M_X11_often [.ref C, vi p, vi s] (zmS C, σ, τ) (mQ C (sp_often A p s)) := by
  have hP := (mThrown (v := 0)).P h.p
  refine zC_of 0 rfl (Nat.le_of_ble_eq_true rfl) ?_
  refine zw_aload_n 1 rfl dX11_often_0 rfl ?_
  refine zw_iconst 2 rfl dX11_often_1 ?_
  refine zw_puti 5 rfl dX11_often_2 fp_X11_85 (by first | assumption | exact zm_o0 | exact zm_o _ _ _ rfl) ?_
  refine zw_aload_n 6 rfl dX11_often_5 rfl ?_
  refine zw_iload_n 7 rfl dX11_often_6 rfl ?_
  refine zw_cVi1 10 rfl dX11_often_7 kX11_often_173 (Nat.le_of_ble_eq_true rfl) (by first | assumption | exact zm_o0 | exact zm_o _ _ _ rfl) (m_isPicture hP hp) ?_
  refine zw_if_neB 19 13 rfl dX11_often_10 (by decide) (fun h_10 => ?_) (fun h_10 => ?_)
  · refine zw_iload_n 20 rfl dX11_often_19 rfl ?_
    refine zw_iconst 21 rfl dX11_often_20 ?_
    refine zw_sipush 24 rfl dX11_often_21 rfl ?_
    refine zw_cSi3 27 rfl dX11_often_24 kX11_often_106 (Nat.le_of_ble_eq_true rfl) (m_in hs (by omega) (by omega)) ?_
    refine zw_if_eqB 43 30 rfl dX11_often_27 (by decide) (fun h_27 => ?_) (fun h_27 => ?_)
    · refine zw_aload_n 44 rfl dX11_often_43 rfl ?_
      refine zw_iconst 45 rfl dX11_often_44 ?_
      refine zw_cVi1 48 rfl dX11_often_45 kX11_often_147 (Nat.le_of_ble_eq_true rfl) (by first | assumption | exact zm_o0 | exact zm_o _ _ _ rfl) m_refused ?_
      first | exact zw_iret (st := []) dX11_often_48 rfl (mRead h mThrown mScT.rf (by simp only [if_pos h_10, if_neg h_27]) rfl rfl) | exact zw_iret (st := []) dX11_often_48 rfl (mRef h mThrown mScT.rf (by simp only [if_pos h_10, if_neg h_27]) (by omega))
    · refine zw_aload_n 31 rfl dX11_often_30 rfl ?_
      refine zw_aload_n 32 rfl dX11_often_31 rfl ?_
      refine zw_iload_n 33 rfl dX11_often_32 rfl ?_
      refine zw_iload_n 34 rfl dX11_often_33 rfl ?_
      refine zw_cVi2 37 rfl dX11_often_34 kX11_often_186 (Nat.le_of_ble_eq_true rfl) (by first | assumption | exact zm_o0 | exact zm_o _ _ _ rfl) (m_manyOf (hP.pc h_10) hs) ?_
      refine zw_cVi1 40 rfl dX11_often_37 kX11_often_157 (Nat.le_of_ble_eq_true rfl) (by first | assumption | exact zm_o0 | exact zm_o _ _ _ rfl) m_good ?_
      refine zw_goto 48 dX11_often_40 (by decide) ?_
      first | exact zw_iret (st := []) dX11_often_48 rfl (mRead h mThrown mScT.rf (by simp only [if_pos h_10, if_pos h_27]) rfl rfl) | exact zw_iret (st := []) dX11_often_48 rfl (mRef h mThrown mScT.rf (by simp only [if_pos h_10, if_pos h_27]) (by omega))
  · refine zw_aload_n 14 rfl dX11_often_13 rfl ?_
    refine zw_iconst 15 rfl dX11_often_14 ?_
    refine zw_cVi1 18 rfl dX11_often_15 kX11_often_147 (Nat.le_of_ble_eq_true rfl) (by first | assumption | exact zm_o0 | exact zm_o _ _ _ rfl) m_refused ?_
    first | exact zw_iret (st := []) dX11_often_18 rfl (mRead h mThrown mScT.rf (by simp only [if_neg h_10]) rfl rfl) | exact zw_iret (st := []) dX11_often_18 rfl (mRef h mThrown mScT.rf (by simp only [if_neg h_10]) (by omega))
theorem Y_undo {G : zG} {C : Nat} {σ τ : zSt} {A : zA} (h : zmR C σ τ A) : zC G M_X11_undo [.ref C] (zmS C, σ, τ) (mQ C (sp_undo A)) := by
  obtain ⟨P, Hs, T, E, N, Gr, I⟩ := A
  have hH : mrH C σ Hs := h.2.1
  have hb := hH.2.1
  have hmn := hH.1
  refine zC_of 1 rfl (Nat.le_of_ble_eq_true rfl) ?_
  cases Hs with
  | nil =>
    simp only [List.length_nil] at hmn
    refine zw_aload_n 1 rfl dX11_undo_0 rfl ?_
    refine zw_iconst 2 rfl dX11_undo_1 ?_
    refine zw_puti 5 rfl dX11_undo_2 fp_X11_85 (by first | assumption | exact zm_o0 | exact zm_o _ _ _ rfl) ?_
    refine zw_aload_n 6 rfl dX11_undo_5 rfl ?_
    refine zw_geti 9 rfl dX11_undo_6 fl_X11_163 (by first | assumption | exact zm_o0 | exact zm_o _ _ _ rfl) ?_
    rw [zu_k _ _ (by omega), hmn]
    refine zw_if_ne 18 12 rfl dX11_undo_9 (by decide) (by omega) (fun h_9 => ?_) (fun h_9 => ?_)
    · exact absurd rfl h_9
    · refine zw_aload_n 13 rfl dX11_undo_12 rfl ?_
      refine zw_iconst 14 rfl dX11_undo_13 ?_
      refine zw_cVi1 17 rfl dX11_undo_14 kX11_undo_147 (Nat.le_of_ble_eq_true rfl) (by first | assumption | exact zm_o0 | exact zm_o _ _ _ rfl) m_refused ?_
      refine zw_iret (st := []) dX11_undo_17 rfl ⟨rfl, _, _, rfl, ?_⟩
      exact h.set ((mThrown.u (by unfold mKey; omega)).u (by unfold mKey; omega)) mScT.rf (by rw [zu_k _ _ (by omega), zu_eq]) (zu_eq _ _ _ _)
  | cons Q r =>
    simp only [List.length_cons] at hmn hb
    have hQ : mrP (σ (C + 10)) (r.length * 1164) Q := by
      have := hH.2.2 0 (by simp)
      simp only [List.length_cons] at this
      rw [show r.length + 1 - 1 - 0 = r.length by omega] at this
      exact this
    have key : ∀ σs : zSt, (∀ b j, b ≠ C + 9 → ¬ (b = C ∧ j = 0) → ¬ (b = C ∧ j = 23) → σs b j = σ b j) → σs C 23 = r.length → σs (C + 9) = zcpy (σ (C + 9)) (σ (C + 10)) 0 (r.length * 1164) 0 → zW G M_X11_undo (mQ C (sp_undo (P, Q :: r, T, E, N, Gr, I))) 30 [some (.ref C), some (vi (0 : Nat))] [] (zmS C, σs, τ) := by
      refine zloop (n := 1164) (L := fun k => ∀ σs : zSt, (∀ b j, b ≠ C + 9 → ¬ (b = C ∧ j = 0) → ¬ (b = C ∧ j = 23) → σs b j = σ b j) → σs C 23 = r.length → σs (C + 9) = zcpy (σ (C + 9)) (σ (C + 10)) k (r.length * 1164) 0 → zW G M_X11_undo (mQ C (sp_undo (P, Q :: r, T, E, N, Gr, I))) 30 [some (.ref C), some (vi (k : Nat))] [] (zmS C, σs, τ)) ?_ ?_
      · intro σs e1 e2 e3
        have fin : zmR C (zu (zu σs C 1 0) C 2 (-1)) τ (aSet (Q, r, T, E, N, Gr, I) 0) := by
          obtain ⟨a1, a2, a3, a4, a5, a6, a7⟩ := h
          generalize hσ2 : zu (zu σs C 1 0) C 2 (-1) = σ2
          have f1 : ∀ b j, ¬ (b = C ∧ j = 1) → ¬ (b = C ∧ j = 2) → σ2 b j = σs b j := fun b j h1 h2 => by rw [← hσ2, zu_ne _ _ h2, zu_ne _ _ h1]
          have f2 : ∀ b j, b ≠ C + 9 → (b = C → j ≠ 23 ∧ j ≠ 1 ∧ j ≠ 2 ∧ j ≠ 0) → σ2 b j = σ b j := fun b j h1 h2 => by rw [f1 b j (by omega) (by omega)]; exact e1 b j h1 (by omega) (by omega)
          refine ⟨hQ.mv (fun j hj => ?_), ⟨?_, ?_, fun i hi => ?_⟩, a3.c (f2 _ _ (by omega) (by omega)) (fun j => f2 _ _ (by omega) (by omega)), ⟨by rw [← hσ2, zu_k _ _ (by omega), zu_eq]; rfl, by rw [← hσ2, zu_eq]; rfl, (f2 C 7 (by omega) (by omega)).trans a4.2.2⟩, a5.c (f2 _ _ (by omega) (by omega)) (fun j => f2 _ _ (by omega) (by omega)) (fun j => f2 _ _ (by omega) (by omega)), ?_, a7.c (f2 _ _ (by omega) (by omega)) (fun j => f2 _ _ (by omega) (by omega))⟩
          · rw [f1 _ _ (by omega) (by omega), e3, zcpy_in _ _ hj, Nat.add_comm j]
          · rw [f1 _ _ (by omega) (by omega), e2]; rfl
          · show r.length ≤ 10; omega
          · have hi : i < r.length := hi
            have g := a2.2.2 (i + 1) (by show i + 1 < (Q :: r).length; rw [List.length_cons]; omega)
            have g2 : mrP (σ (C + 10)) (((Q :: r).length - 1 - (i + 1)) * 1164) (r.getD i (fun _ => (0, 0, fun _ _ => 0))) := g
            rw [List.length_cons, show r.length + 1 - 1 - (i + 1) = r.length - 1 - i by omega] at g2
            exact g2.mv (fun j hj => f2 _ _ (by omega) (by omega))
          · show mrG C σ2 τ Gr
            have a6 : mrG C σ τ Gr := a6
            cases Gr with
            | none => exact (f2 C 32 (by omega) (by omega)).trans a6
            | some g => exact ⟨(f2 C 32 (by omega) (by omega)).trans a6.1, a6.2.1.c (f2 _ _ (by omega) (by omega)) (f2 _ _ (by omega) (by omega)) (fun j hj => f2 _ _ (by omega) (by omega)) (fun j hj => ⟨rfl, rfl⟩), a6.2.2.mv (fun j _ => f2 _ _ (by omega) (by omega))⟩
        refine zw_iload_n 31 rfl dX11_undo_30 rfl ?_
        refine zw_sipush 34 rfl dX11_undo_31 rfl ?_
        refine zw_icmp_ge 67 37 rfl dX11_undo_34 (by decide) (by omega) (by omega) (fun h_34 => ?_) (fun h_34 => ?_)
        · refine zw_aload_n 68 rfl dX11_undo_67 rfl ?_
          refine zw_aload_n 69 rfl dX11_undo_68 rfl ?_
          refine zw_geti 72 rfl dX11_undo_69 fl_X11_163 (by first | assumption | exact zm_o0 | exact zm_o _ _ _ rfl) ?_
          refine zw_cVi1 75 rfl dX11_undo_72 kX11_undo_157 (Nat.le_of_ble_eq_true rfl) (by first | assumption | exact zm_o0 | exact zm_o _ _ _ rfl) m_good ?_
          exact zw_iret (st := []) dX11_undo_75 rfl ⟨by rw [e2]; rfl, _, _, rfl, fin⟩
        · omega
      · intro k hk ih σs e1 e2 e3
        have e10 : σs (C + 10) = σ (C + 10) := funext fun j => e1 _ _ (by omega) (by omega) (by omega)
        refine zw_iload_n 31 rfl dX11_undo_30 rfl ?_
        refine zw_sipush 34 rfl dX11_undo_31 rfl ?_
        refine zw_icmp_ge 67 37 rfl dX11_undo_34 (by decide) (by omega) (by omega) (fun h_34 => ?_) (fun h_34 => ?_)
        · omega
        · refine zw_aload_n 38 rfl dX11_undo_37 rfl ?_
          refine zw_getr 41 rfl dX11_undo_38 fl_X11_38 (by first | assumption | exact zm_o0 | exact zm_o _ _ _ rfl) (by first | assumption | exact zm_f _ _ rfl) ?_
          refine zw_iload_n 42 rfl dX11_undo_41 rfl ?_
          refine zw_aload_n 43 rfl dX11_undo_42 rfl ?_
          refine zw_getr 46 rfl dX11_undo_43 fl_X11_41 (by first | assumption | exact zm_o0 | exact zm_o _ _ _ rfl) (by first | assumption | exact zm_f _ _ rfl) ?_
          refine zw_aload_n 47 rfl dX11_undo_46 rfl ?_
          refine zw_geti 50 rfl dX11_undo_47 fl_X11_163 (by first | assumption | exact zm_o0 | exact zm_o _ _ _ rfl) ?_
          rw [e2]
          refine zw_bipush 52 rfl dX11_undo_50 rfl ?_
          refine zw_imul 53 rfl dX11_undo_52 ?_
          refine zw_sipush 56 rfl dX11_undo_53 rfl ?_
          refine zw_imul 57 rfl dX11_undo_56 ?_
          refine zw_iload_n 58 rfl dX11_undo_57 rfl ?_
          refine zw_iadd 59 rfl dX11_undo_58 ?_
          refine zw_iald 60 rfl dX11_undo_59 (by first | assumption | exact zm_o0 | exact zm_o _ _ _ rfl) (by omega) (by omega) ?_
          rw [e10, show ((r.length : Int) * 6 * 194 + k).toNat = k + r.length * 1164 by omega]
          refine zw_iast 61 rfl dX11_undo_60 (by first | assumption | exact zm_o0 | exact zm_o _ _ _ rfl) (by omega) (by omega) ?_
          refine zw_iinc 64 rfl dX11_undo_61 (Nat.le_of_ble_eq_true rfl) rfl rfl ?_
          refine zw_goto 30 dX11_undo_64 (by decide) ?_
          refine ih _ (fun b j b1 b2 b3 => ?_) ?_ ?_
          · rw [zu_a _ _ b1]; exact e1 b j b1 b2 b3
          · rw [zu_a _ _ (by omega)]; exact e2
          · have z := zcpy_s (σ (C + 9)) (σ (C + 10)) k (r.length * 1164) 0
            rw [Nat.zero_add] at z
            rw [zu_row2, e3, Int.toNat_natCast]
            exact z
    refine zw_aload_n 1 rfl dX11_undo_0 rfl ?_
    refine zw_iconst 2 rfl dX11_undo_1 ?_
    refine zw_puti 5 rfl dX11_undo_2 fp_X11_85 (by first | assumption | exact zm_o0 | exact zm_o _ _ _ rfl) ?_
    refine zw_aload_n 6 rfl dX11_undo_5 rfl ?_
    refine zw_geti 9 rfl dX11_undo_6 fl_X11_163 (by first | assumption | exact zm_o0 | exact zm_o _ _ _ rfl) ?_
    rw [zu_k _ _ (by omega), hmn]
    refine zw_if_ne 18 12 rfl dX11_undo_9 (by decide) (by omega) (fun h_9 => ?_) (fun h_9 => ?_)
    · refine zw_aload_n 19 rfl dX11_undo_18 rfl ?_
      refine zw_dup 20 rfl dX11_undo_19 rfl ?_
      refine zw_geti 23 rfl dX11_undo_20 fl_X11_163 (by first | assumption | exact zm_o0 | exact zm_o _ _ _ rfl) ?_
      rw [zu_k _ _ (by omega), hmn]
      refine zw_iconst 24 rfl dX11_undo_23 ?_
      refine zw_isub 25 rfl dX11_undo_24 ?_
      refine zw_puti 28 rfl dX11_undo_25 fp_X11_163 (by first | assumption | exact zm_o0 | exact zm_o _ _ _ rfl) ?_
      refine zw_iconst 29 rfl dX11_undo_28 ?_
      refine zw_istore_n 30 rfl dX11_undo_29 (Nat.le_of_ble_eq_true rfl) rfl ?_
      refine key _ (fun b j b1 b2 b3 => by rw [zu_ne _ _ b3, zu_ne _ _ b2]) ?_ ?_
      · rw [zu_eq]; omega
      · rw [zu_row _ _ (by omega), zu_row _ _ (by omega), zcpy_0]
    · omega
