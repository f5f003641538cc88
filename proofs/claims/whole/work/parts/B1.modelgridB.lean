/-! ===== read, readShade ===== -/
theorem m_isGridDot {G : zG} {C : Nat} {σ τ : zSt} {A : zA} {x y : Int} (h : zmR C σ τ A) (hx : -2147483648 ≤ x ∧ x ≤ 2147483647) (hy : -2147483648 ≤ y ∧ y ≤ 2147483647) : zC G M_X11_isGridDot [.ref C, vi x, vi y] (zmS C, σ, τ) (zR (some (vi (zb (aMade A ∧ aIn (aGG A).1 x y)))) (zmS C, σ, τ)) := by
  refine zC_of 0 rfl (Nat.le_of_ble_eq_true rfl) ?_
  refine zw_aload_n 1 rfl dX11_isGridDot_0 rfl ?_
  refine zw_getz 4 rfl dX11_isGridDot_1 fl_X11_166 (by first | assumption | exact zm_o0 | exact zm_o _ _ _ rfl) ?_
  rw [h.has]
  refine zw_if_eqB 43 7 rfl dX11_isGridDot_4 (by decide) (fun h_4 => ?_) (fun h_4 => ?_)
  · refine zw_iconst 44 rfl dX11_isGridDot_43 ?_
    exact zw_zretR dX11_isGridDot_44 rfl (by omega) (by first | exact zb_f (fun q => h_4 q.1) | exact zb_f (fun q => h_20 (by omega)) | exact zb_f (fun q => h_36 (by omega)) | exact zb_t ⟨h_4, by omega⟩) rfl
  · obtain ⟨k1, k2, k3, k4, k5⟩ := id (h.made h_4).1.1
    have hp := (h.made h_4).2
    have p1 : σ (C + 18) 0 = (aGG A).1.1 := hp.1.trans k3
    have p2 : σ (C + 18) 1 = (aGG A).1.2.1 := (hp.2.2 (by omega)).1.trans k4
    refine zw_iload_n 8 rfl dX11_isGridDot_7 rfl ?_
    refine zw_iconst 9 rfl dX11_isGridDot_8 ?_
    refine zw_aload_n 10 rfl dX11_isGridDot_9 rfl ?_
    refine zw_getr 13 rfl dX11_isGridDot_10 fl_X11_67 (by first | assumption | exact zm_o0 | exact zm_o _ _ _ rfl) (by first | assumption | exact zm_f _ _ rfl) ?_
    refine zw_iconst 14 rfl dX11_isGridDot_13 ?_
    refine zw_iald 15 rfl dX11_isGridDot_14 (by first | assumption | exact zm_o0 | exact zm_o _ _ _ rfl) (by omega) (by omega) ?_
    show zW _ _ _ _ _ (vi (σ (C + 18) 0) :: _) _
    rw [p1]
    refine zw_iconst 16 rfl dX11_isGridDot_15 ?_
    refine zw_isub 17 rfl dX11_isGridDot_16 ?_
    refine zw_cSi3 20 rfl dX11_isGridDot_17 kX11_isGridDot_106 (Nat.le_of_ble_eq_true rfl) (m_in (by omega) (by omega) (by omega)) ?_
    refine zw_if_eqB 43 23 rfl dX11_isGridDot_20 (by decide) (fun h_20 => ?_) (fun h_20 => ?_)
    · refine zw_iconst 44 rfl dX11_isGridDot_43 ?_
      exact zw_zretR dX11_isGridDot_44 rfl (by omega) (by first | exact zb_f (fun q => h_4 q.1) | exact zb_f (fun q => h_20 (by omega)) | exact zb_f (fun q => h_36 (by omega)) | exact zb_t ⟨h_4, by omega⟩) rfl
    · refine zw_iload_n 24 rfl dX11_isGridDot_23 rfl ?_
      refine zw_iconst 25 rfl dX11_isGridDot_24 ?_
      refine zw_aload_n 26 rfl dX11_isGridDot_25 rfl ?_
      refine zw_getr 29 rfl dX11_isGridDot_26 fl_X11_67 (by first | assumption | exact zm_o0 | exact zm_o _ _ _ rfl) (by first | assumption | exact zm_f _ _ rfl) ?_
      refine zw_iconst 30 rfl dX11_isGridDot_29 ?_
      refine zw_iald 31 rfl dX11_isGridDot_30 (by first | assumption | exact zm_o0 | exact zm_o _ _ _ rfl) (by omega) (by omega) ?_
      show zW _ _ _ _ _ (vi (σ (C + 18) 1) :: _) _
      rw [p2]
      refine zw_iconst 32 rfl dX11_isGridDot_31 ?_
      refine zw_isub 33 rfl dX11_isGridDot_32 ?_
      refine zw_cSi3 36 rfl dX11_isGridDot_33 kX11_isGridDot_106 (Nat.le_of_ble_eq_true rfl) (m_in (by omega) (by omega) (by omega)) ?_
      refine zw_if_eqB 43 39 rfl dX11_isGridDot_36 (by decide) (fun h_36 => ?_) (fun h_36 => ?_)
      · refine zw_iconst 44 rfl dX11_isGridDot_43 ?_
        exact zw_zretR dX11_isGridDot_44 rfl (by omega) (by first | exact zb_f (fun q => h_4 q.1) | exact zb_f (fun q => h_20 (by omega)) | exact zb_f (fun q => h_36 (by omega)) | exact zb_t ⟨h_4, by omega⟩) rfl
      · refine zw_iconst 40 rfl dX11_isGridDot_39 ?_
        refine zw_goto 44 dX11_isGridDot_40 (by decide) ?_
        exact zw_zretR dX11_isGridDot_44 rfl (by omega) (by first | exact zb_f (fun q => h_4 q.1) | exact zb_f (fun q => h_20 (by omega)) | exact zb_f (fun q => h_36 (by omega)) | exact zb_t ⟨h_4, by omega⟩) rfl
theorem m_common {G : zG} {S : zSh} {σ τ : zSt} {a b : Nat} (ha : a ≤ 2000000000000000000) (hb : b ≤ 2000000000000000000) : zC G M_X11_common [vl (a : Int), vl (b : Int)] (S, σ, τ) (zR (some (vl (Nat.gcd a b : Nat))) (S, σ, τ)) := by
  refine zC_of 6 rfl (Nat.le_of_ble_eq_true rfl) ?_
  have loop : ∀ (n d c : Nat), d ≤ n → c ≤ 2000000000000000000 → d ≤ 2000000000000000000 → zW G M_X11_common (zR (some (vl (Nat.gcd c d : Nat))) (S, σ, τ)) 6 [some (vl (a : Int)), none, some (vl (b : Int)), none, some (vl (c : Int)), none, some (vl (d : Int)), none, none, none] [] (S, σ, τ) := by
    intro n
    induction n with
    | zero =>
      intro d c h1 h2 h3
      have hd : d = 0 := by omega
      subst hd
      rw [Nat.gcd_zero_right]
      refine zw_lload 8 rfl dX11_common_6 rfl ?_
      refine zw_lconst 9 rfl dX11_common_8 ?_
      refine zw_lcmp 10 rfl dX11_common_9 (by omega) (by omega) ?_
      refine zw_if_eq 31 13 rfl dX11_common_10 (by decide) (by (repeat' split) <;> omega) (fun h_10 => ?_) (fun h_10 => ?_)
      · refine zw_lload 33 rfl dX11_common_31 rfl ?_
        exact zw_lretR dX11_common_33 rfl rfl rfl
      · exact absurd rfl h_10
    | succ n ih =>
      intro d c h1 h2 h3
      by_cases hd : d = 0
      · subst hd
        rw [Nat.gcd_zero_right]
        refine zw_lload 8 rfl dX11_common_6 rfl ?_
        refine zw_lconst 9 rfl dX11_common_8 ?_
        refine zw_lcmp 10 rfl dX11_common_9 (by omega) (by omega) ?_
        refine zw_if_eq 31 13 rfl dX11_common_10 (by decide) (by (repeat' split) <;> omega) (fun h_10 => ?_) (fun h_10 => ?_)
        · refine zw_lload 33 rfl dX11_common_31 rfl ?_
          exact zw_lretR dX11_common_33 rfl rfl rfl
        · exact absurd rfl h_10
      · have hlt : c % d < d := Nat.mod_lt _ (by omega)
        have hle : c % d ≤ c := Nat.mod_le _ _
        have e : Nat.gcd c d = Nat.gcd d (c % d) := by rw [Nat.gcd_comm c d, Nat.gcd_rec d c, Nat.gcd_comm]
        rw [e]
        refine zw_lload 8 rfl dX11_common_6 rfl ?_
        refine zw_lconst 9 rfl dX11_common_8 ?_
        refine zw_lcmp 10 rfl dX11_common_9 (by omega) (by omega) ?_
        refine zw_if_eq 31 13 rfl dX11_common_10 (by decide) (by (repeat' split) <;> omega) (fun h_10 => ?_) (fun h_10 => ?_)
        · exfalso; revert h_10; show ¬ ((if (d : Int) < 0 then (-1 : Int) else if (d : Int) = 0 then 0 else 1) = 0); rw [if_neg (by omega), if_neg (by omega)]; omega
        · refine zw_lload 15 rfl dX11_common_13 rfl ?_
          refine zw_lload 17 rfl dX11_common_15 rfl ?_
          refine zw_lrem 18 rfl dX11_common_17 (by omega) (by omega) ?_
          rw [← Int.natCast_emod]
          refine zw_lstore 20 rfl dX11_common_18 (Nat.le_of_ble_eq_true rfl) rfl ?_
          refine zw_lload 22 rfl dX11_common_20 rfl ?_
          refine zw_lstore 24 rfl dX11_common_22 (Nat.le_of_ble_eq_true rfl) rfl ?_
          refine zw_lload 26 rfl dX11_common_24 rfl ?_
          refine zw_lstore 28 rfl dX11_common_26 (Nat.le_of_ble_eq_true rfl) rfl ?_
          refine zw_goto 6 dX11_common_28 (by decide) ?_
          refine zw_drop 8 ?_
          exact ih (c % d) d (by omega) (by omega) (by omega)
  refine zw_lload_n 1 rfl dX11_common_0 rfl ?_
  refine zw_lstore 3 rfl dX11_common_1 (Nat.le_of_ble_eq_true rfl) rfl ?_
  refine zw_lload_n 4 rfl dX11_common_3 rfl ?_
  refine zw_lstore 6 rfl dX11_common_4 (Nat.le_of_ble_eq_true rfl) rfl ?_
  exact loop b b a (Nat.le_refl _) ha hb
theorem mRdS {C : Nat} {σ σ' τ τ' : zSt} (h1 : mFr C (zu σ C 0 0) σ') (h2 : ∀ b j, ¬ (b = C ∧ (j = 37 ∨ j = 38)) → τ' b j = τ b j) : mScr C σ σ' ∧ mScT C τ τ' := ⟨fun b j hk => by rw [h1 b j (by unfold mKey at hk; omega), zu_ne _ _ (by unfold mKey at hk; omega)], fun j _ => ⟨h2 _ _ (by omega), h2 _ _ (by omega)⟩⟩
theorem Y_readShade {G : zG} {C : Nat} {σ τ : zSt} {A : zA} {x y : Int} (h : zmR C σ τ A) (hx : -2147483648 ≤ x ∧ x ≤ 2147483647) (hy : -2147483648 ≤ y ∧ y ≤ 2147483647) : zC G M_X11_readShade [.ref C, vi x, vi y] (zmS C, σ, τ) (mQ C (sp_readShade A x y)) := by
  have h0 := mSame h (mThrown (v := 0)) mScT.rf (zu_k _ _ (by omega)) (zu_k _ _ (by omega))
  refine zC_of 0 rfl (Nat.le_of_ble_eq_true rfl) ?_
  refine zw_aload_n 1 rfl dX11_readShade_0 rfl ?_
  refine zw_iconst 2 rfl dX11_readShade_1 ?_
  refine zw_puti 5 rfl dX11_readShade_2 fp_X11_85 (by first | assumption | exact zm_o0 | exact zm_o _ _ _ rfl) ?_
  refine zw_aload_n 6 rfl dX11_readShade_5 rfl ?_
  refine zw_iload_n 7 rfl dX11_readShade_6 rfl ?_
  refine zw_iload_n 8 rfl dX11_readShade_7 rfl ?_
  refine zw_cVi2 11 rfl dX11_readShade_8 kX11_readShade_285 (Nat.le_of_ble_eq_true rfl) (by first | assumption | exact zm_o0 | exact zm_o _ _ _ rfl) (m_isGridDot h0 hx hy) ?_
  refine zw_if_neB 20 14 rfl dX11_readShade_11 (by decide) (fun h_11 => ?_) (fun h_11 => ?_)
  · have hl := (h0.made h_11.1).1
    have hpg := (h0.made h_11.1).2
    obtain ⟨k1, k2, k3, k4, k5, k6, k7, k8, k9, k10⟩ := id hl.1
    have hin := h_11.2
    have hsh := (hpg.2.2 (by omega)).2.2 x y (by omega) (by omega)
    have hr1 := zRW_r hl.1 x y ((aGG A).2.1.2.2 x y)
    have hr2 := zRW_p hl.1 hin
    refine zw_aload_n 21 rfl dX11_readShade_20 rfl ?_
    refine zw_iconst 22 rfl dX11_readShade_21 ?_
    refine zw_iload_n 23 rfl dX11_readShade_22 rfl ?_
    refine zw_iload_n 24 rfl dX11_readShade_23 rfl ?_
    refine zw_aload_n 25 rfl dX11_readShade_24 rfl ?_
    refine zw_getr 28 rfl dX11_readShade_25 fl_X11_67 (by first | assumption | exact zm_o0 | exact zm_o _ _ _ rfl) (by first | assumption | exact zm_f _ _ rfl) ?_
    refine zw_iconst 29 rfl dX11_readShade_28 ?_
    refine zw_bipush 31 rfl dX11_readShade_29 rfl ?_
    refine zw_iload_n 32 rfl dX11_readShade_31 rfl ?_
    refine zw_imul 33 rfl dX11_readShade_32 ?_
    refine zw_iadd 34 rfl dX11_readShade_33 ?_
    refine zw_iload_n 35 rfl dX11_readShade_34 rfl ?_
    refine zw_iadd 36 rfl dX11_readShade_35 ?_
    refine zw_iald 37 rfl dX11_readShade_36 (by first | assumption | exact zm_o0 | exact zm_o _ _ _ rfl) (by omega) (by omega) ?_
    rw [show (2 + 16 * y + x).toNat = 0 + 2 + (16 * y + x).toNat by omega, hsh.1]
    refine zw_cVr4 40 rfl dX11_readShade_37 kX11_readShade_288 (Nat.le_of_ble_eq_true rfl) (by first | assumption | exact zm_o0 | exact zm_o _ _ _ rfl) (m_reads (g := 0) (A := aGG A) ⟨by omega, hl.2.1, hl.2.2.1, k5, k6⟩ hl.gd rfl rfl (by omega) (by omega) (by omega)) ?_
    rintro _ _ ⟨rfl, σ3, τ3, rfl, hf, ht, ha, hb⟩
    obtain ⟨sc1, sc2⟩ := mRdS hf ht
    refine zw_aload_n 41 rfl dX11_readShade_40 rfl ?_
    refine zw_aload_n 42 rfl dX11_readShade_41 rfl ?_
    refine zw_getl 45 rfl dX11_readShade_42 fl_X11_256 (by first | assumption | exact zm_o0 | exact zm_o _ _ _ rfl) ?_
    rw [ha]
    refine zw_aload_n 46 rfl dX11_readShade_45 rfl ?_
    refine zw_getl 49 rfl dX11_readShade_46 fl_X11_260 (by first | assumption | exact zm_o0 | exact zm_o _ _ _ rfl) ?_
    rw [hb]
    refine zw_cSi2 52 rfl dX11_readShade_49 kX11_readShade_295 (Nat.le_of_ble_eq_true rfl) (m_nearest (by omega) (by omega)) ?_
    refine zw_cVi1 55 rfl dX11_readShade_52 kX11_readShade_157 (Nat.le_of_ble_eq_true rfl) (by first | assumption | exact zm_o0 | exact zm_o _ _ _ rfl) m_good ?_
    exact zw_iret (st := []) dX11_readShade_55 rfl (mRead h sc1 sc2 (by rw [if_pos h_11]) rfl rfl)
  · refine zw_aload_n 15 rfl dX11_readShade_14 rfl ?_
    refine zw_iconst 16 rfl dX11_readShade_15 ?_
    refine zw_cVi1 19 rfl dX11_readShade_16 kX11_readShade_147 (Nat.le_of_ble_eq_true rfl) (by first | assumption | exact zm_o0 | exact zm_o _ _ _ rfl) m_refused ?_
    exact zw_iret (st := []) dX11_readShade_19 rfl (mRef h mThrown mScT.rf (by simp only [if_neg h_11, if_true, if_false]) (by omega))
theorem Y_read {G : zG} {C : Nat} {σ τ : zSt} {A : zA} {x y sh what : Int} (h : zmR C σ τ A) (hx : -2147483648 ≤ x ∧ x ≤ 2147483647) (hy : -2147483648 ≤ y ∧ y ≤ 2147483647) (hsh : -2147483648 ≤ sh ∧ sh ≤ 2147483647) (hwhat : -2147483648 ≤ what ∧ what ≤ 2147483647) : zC G M_X11_read [.ref C, vi x, vi y, vi sh, vi what] (zmS C, σ, τ) (mQl C (sp_read A x y sh what)) := by
  have h0 := mSame h (mThrown (v := 0)) mScT.rf (zu_k _ _ (by omega)) (zu_k _ _ (by omega))
  refine zC_of 2 rfl (Nat.le_of_ble_eq_true rfl) ?_
  refine zw_aload_n 1 rfl dX11_read_0 rfl ?_
  refine zw_iconst 2 rfl dX11_read_1 ?_
  refine zw_puti 5 rfl dX11_read_2 fp_X11_85 (by first | assumption | exact zm_o0 | exact zm_o _ _ _ rfl) ?_
  refine zw_aload_n 6 rfl dX11_read_5 rfl ?_
  refine zw_iload_n 7 rfl dX11_read_6 rfl ?_
  refine zw_iload_n 8 rfl dX11_read_7 rfl ?_
  refine zw_cVi2 11 rfl dX11_read_8 kX11_read_285 (Nat.le_of_ble_eq_true rfl) (by first | assumption | exact zm_o0 | exact zm_o _ _ _ rfl) (m_isGridDot h0 hx hy) ?_
  refine zw_if_eqB 24 14 rfl dX11_read_11 (by decide) (fun h_11 => ?_) (fun h_11 => ?_)
  · refine zw_aload_n 25 rfl dX11_read_24 rfl ?_
    refine zw_iconst 26 rfl dX11_read_25 ?_
    refine zw_cVi1 29 rfl dX11_read_26 kX11_read_147 (Nat.le_of_ble_eq_true rfl) (by first | assumption | exact zm_o0 | exact zm_o _ _ _ rfl) m_refused ?_
    refine zw_i2l 30 rfl dX11_read_29 (by omega) ?_
    exact zw_lret (st := []) dX11_read_30 rfl (mRefl h mThrown mScT.rf (by simp only [if_neg h_11, if_true, if_false]) (by omega))
  · refine zw_iload 16 rfl dX11_read_14 rfl ?_
    refine zw_iconst 17 rfl dX11_read_16 ?_
    refine zw_iconst 18 rfl dX11_read_17 ?_
    refine zw_cSi3 21 rfl dX11_read_18 kX11_read_106 (Nat.le_of_ble_eq_true rfl) (m_in (by omega) (by omega) (by omega)) ?_
    refine zw_if_neB 31 24 rfl dX11_read_21 (by decide) (fun h_21 => ?_) (fun h_21 => ?_)
    · refine zw_iload_n 32 rfl dX11_read_31 rfl ?_
      refine zw_iconst 33 rfl dX11_read_32 ?_
      refine zw_sipush 36 rfl dX11_read_33 rfl ?_
      refine zw_cSi3 39 rfl dX11_read_36 kX11_read_106 (Nat.le_of_ble_eq_true rfl) (m_in (by omega) (by omega) (by omega)) ?_
      refine zw_if_neB 49 42 rfl dX11_read_39 (by decide) (fun h_39 => ?_) (fun h_39 => ?_)
      · have hl := (h0.made h_11.1).1
        obtain ⟨k1, k2, k3, k4, k5, k6, k7, k8, k9, k10⟩ := id hl.1
        have hin := h_11.2
        have hr1 := zRW_r hl.1 x y sh
        obtain ⟨NS, hNS⟩ : ∃ n : Nat, zRS (aGG A) x y sh = n := ⟨(zRS (aGG A) x y sh).toNat, by omega⟩
        obtain ⟨NW, hNW⟩ : ∃ n : Nat, zRW (aGG A) x y sh = n := ⟨(zRW (aGG A) x y sh).toNat, by omega⟩
        rw [hNS, hNW] at hr1
        refine zw_aload_n 50 rfl dX11_read_49 rfl ?_
        refine zw_iconst 51 rfl dX11_read_50 ?_
        refine zw_iload_n 52 rfl dX11_read_51 rfl ?_
        refine zw_iload_n 53 rfl dX11_read_52 rfl ?_
        refine zw_iload_n 54 rfl dX11_read_53 rfl ?_
        refine zw_cVr4 57 rfl dX11_read_54 kX11_read_288 (Nat.le_of_ble_eq_true rfl) (by first | assumption | exact zm_o0 | exact zm_o _ _ _ rfl) (m_reads (g := 0) (A := aGG A) ⟨by omega, hl.2.1, hl.2.2.1, k5, k6⟩ hl.gd rfl rfl (by omega) (by omega) (by omega)) ?_
        rintro _ _ ⟨rfl, σ3, τ3, rfl, hf, ht, ha, hb⟩
        obtain ⟨sc1, sc2⟩ := mRdS hf ht
        refine zw_aload_n 58 rfl dX11_read_57 rfl ?_
        refine zw_getl 61 rfl dX11_read_58 fl_X11_260 (by first | assumption | exact zm_o0 | exact zm_o _ _ _ rfl) ?_
        rw [hb, hNW]
        refine zw_lconst 62 rfl dX11_read_61 ?_
        refine zw_lcmp 63 rfl dX11_read_62 (by omega) (by omega) ?_
        refine zw_if_ne 73 66 rfl dX11_read_63 (by decide) (by (repeat' split) <;> omega) (fun h_63 => ?_) (fun h_63 => ?_)
        · have hne : ¬ ((NW : Nat) : Int) = 0 := fun q => h_63 (by show (if (NW : Int) < 0 then (-1 : Int) else if (NW : Int) = 0 then 0 else 1) = 0; rw [if_neg (by omega), if_pos q])
          refine zw_aload_n 74 rfl dX11_read_73 rfl ?_
          refine zw_getl 77 rfl dX11_read_74 fl_X11_256 (by first | assumption | exact zm_o0 | exact zm_o _ _ _ rfl) ?_
          rw [ha, hNS]
          refine zw_aload_n 78 rfl dX11_read_77 rfl ?_
          refine zw_getl 81 rfl dX11_read_78 fl_X11_260 (by first | assumption | exact zm_o0 | exact zm_o _ _ _ rfl) ?_
          rw [hb, hNW]
          refine zw_cSi2 84 rfl dX11_read_81 kX11_read_291 (Nat.le_of_ble_eq_true rfl) (m_common (by omega) (by omega)) ?_
          have hgp : 0 < Nat.gcd NS NW := Nat.gcd_pos_of_pos_right _ (by have : ¬ ((NW : Nat) : Int) = 0 := hne; omega)
          have hgl : Nat.gcd NS NW ≤ NW := Nat.le_of_dvd (by have : ¬ ((NW : Nat) : Int) = 0 := hne; omega) (Nat.gcd_dvd_right NS NW)
          refine zw_lstore 86 rfl dX11_read_84 (Nat.le_of_ble_eq_true rfl) rfl ?_
          refine zw_aload_n 87 rfl dX11_read_86 rfl ?_
          refine zw_iload 89 rfl dX11_read_87 rfl ?_
          refine zw_if_ne 99 92 rfl dX11_read_89 (by decide) (by omega) (fun h_89 => ?_) (fun h_89 => ?_)
          · refine zw_aload_n 100 rfl dX11_read_99 rfl ?_
            refine zw_getl 103 rfl dX11_read_100 fl_X11_260 (by first | assumption | exact zm_o0 | exact zm_o _ _ _ rfl) ?_
            first | (rw [hb, hNW]) | skip
            refine zw_lload 105 rfl dX11_read_103 rfl ?_
            refine zw_ldiv 106 rfl dX11_read_105 (by omega) (by omega) ?_
            refine zw_cVi1 109 rfl dX11_read_106 kX11_read_278 (Nat.le_of_ble_eq_true rfl) (by first | assumption | exact zm_o0 | exact zm_o _ _ _ rfl) m_says ?_
            refine zw_lret (st := []) dX11_read_109 rfl (mReadl h sc1 sc2 (by rw [if_pos h_11, if_pos h_21, if_pos h_39, if_pos (by rw [hNW]; exact hne)]) ?_ rfl)
            show _ = (if what = 0 then zRS (aGG A) x y sh else zRW (aGG A) x y sh) / zRD (aGG A) x y sh
            unfold zRD
            rw [hNS, hNW, Int.toNat_natCast, Int.toNat_natCast]
            first | (rw [if_pos h_89]; done) | (rw [if_neg h_89]; done)
          · refine zw_aload_n 93 rfl dX11_read_92 rfl ?_
            refine zw_getl 96 rfl dX11_read_93 fl_X11_256 (by first | assumption | exact zm_o0 | exact zm_o _ _ _ rfl) ?_
            rw [ha, hNS]
            refine zw_goto 103 dX11_read_96 (by decide) ?_
            first | (rw [hb, hNW]) | skip
            refine zw_lload 105 rfl dX11_read_103 rfl ?_
            refine zw_ldiv 106 rfl dX11_read_105 (by omega) (by omega) ?_
            refine zw_cVi1 109 rfl dX11_read_106 kX11_read_278 (Nat.le_of_ble_eq_true rfl) (by first | assumption | exact zm_o0 | exact zm_o _ _ _ rfl) m_says ?_
            refine zw_lret (st := []) dX11_read_109 rfl (mReadl h sc1 sc2 (by rw [if_pos h_11, if_pos h_21, if_pos h_39, if_pos (by rw [hNW]; exact hne)]) ?_ rfl)
            show _ = (if what = 0 then zRS (aGG A) x y sh else zRW (aGG A) x y sh) / zRD (aGG A) x y sh
            unfold zRD
            rw [hNS, hNW, Int.toNat_natCast, Int.toNat_natCast]
            first | (rw [if_pos h_89]; done) | (rw [if_neg h_89]; done)
        · refine zw_aload_n 67 rfl dX11_read_66 rfl ?_
          refine zw_iconst 68 rfl dX11_read_67 ?_
          refine zw_cVi1 71 rfl dX11_read_68 kX11_read_147 (Nat.le_of_ble_eq_true rfl) (by first | assumption | exact zm_o0 | exact zm_o _ _ _ rfl) m_refused ?_
          refine zw_i2l 72 rfl dX11_read_71 (by omega) ?_
          have hz : ((NW : Nat) : Int) = 0 := by
            apply Decidable.byContradiction
            intro q
            revert h_63
            show ¬ ((if (NW : Int) < 0 then (-1 : Int) else if (NW : Int) = 0 then 0 else 1) = 0)
            rw [if_neg (by omega), if_neg q]
            omega
          exact zw_lret (st := []) dX11_read_72 rfl (mRefl h sc1 sc2 (by rw [if_pos h_11, if_pos h_21, if_pos h_39, if_neg (fun q => q (by rw [hNW]; exact hz))]) (by omega))
      · refine zw_aload_n 43 rfl dX11_read_42 rfl ?_
        refine zw_iconst 44 rfl dX11_read_43 ?_
        refine zw_cVi1 47 rfl dX11_read_44 kX11_read_147 (Nat.le_of_ble_eq_true rfl) (by first | assumption | exact zm_o0 | exact zm_o _ _ _ rfl) m_refused ?_
        refine zw_i2l 48 rfl dX11_read_47 (by omega) ?_
        exact zw_lret (st := []) dX11_read_48 rfl (mRefl h mThrown mScT.rf (by simp only [if_pos h_11, if_pos h_21, if_neg h_39, if_true, if_false]) (by omega))
    · refine zw_aload_n 25 rfl dX11_read_24 rfl ?_
      refine zw_iconst 26 rfl dX11_read_25 ?_
      refine zw_cVi1 29 rfl dX11_read_26 kX11_read_147 (Nat.le_of_ble_eq_true rfl) (by first | assumption | exact zm_o0 | exact zm_o _ _ _ rfl) m_refused ?_
      refine zw_i2l 30 rfl dX11_read_29 (by omega) ?_
      exact zw_lret (st := []) dX11_read_30 rfl (mRefl h mThrown mScT.rf (by simp only [if_pos h_11, if_neg h_21, if_true, if_false]) (by omega))
/-! ===== total ===== -/
theorem zS_swap (w h : Int) (f : Nat → Int → Int → Int) : ∀ N : Nat, zS (fun n => zsumD w h (f n)) N = zsumD w h (fun x y => zS (fun n => f n x y) N)
  | 0 => by rw [zS_0]; exact (zsumD_0 (fun x y _ _ => rfl)).symm
  | N + 1 => by
    rw [zS_s, zS_swap w h f N, ← zsumD_add]
    exact zsumD_c (fun x y _ _ => (zS_s _ _).symm)
theorem zecho_sum (t : Int) (ht : 0 ≤ t ∧ t ≤ 3) : (∀ q : Int, 0 ≤ q ∧ q ≤ 16 → zS (fun i => zecho t ((i : Int) - 3 - q)) 23 = 2 ^ (2 * t).toNat) ∧ (∀ q : Int, 0 ≤ q ∧ q ≤ 12 → zS (fun i => zecho t ((i : Int) - 3 - q)) 19 = 2 ^ (2 * t).toNat) ∧ ∀ q : Int, 0 ≤ q ∧ q ≤ 32 → zS (fun i => zecho t ((i : Int) - 3 - q)) 39 = 2 ^ (2 * t).toNat := by
  have d1 : ∀ (a : Fin 4) (q : Fin 17), zS (fun i => zecho (a.val : Int) ((i : Int) - 3 - (q.val : Int))) 23 = 2 ^ (2 * (a.val : Int)).toNat := by decide +kernel
  have d2 : ∀ (a : Fin 4) (q : Fin 13), zS (fun i => zecho (a.val : Int) ((i : Int) - 3 - (q.val : Int))) 19 = 2 ^ (2 * (a.val : Int)).toNat := by decide +kernel
  have d3 : ∀ (a : Fin 4) (q : Fin 33), zS (fun i => zecho (a.val : Int) ((i : Int) - 3 - (q.val : Int))) 39 = 2 ^ (2 * (a.val : Int)).toNat := by decide +kernel
  have et : ((t.toNat : Nat) : Int) = t := by omega
  refine ⟨fun q hq => ?_, fun q hq => ?_, fun q hq => ?_⟩
  · have := d1 ⟨t.toNat, by omega⟩ ⟨q.toNat, by omega⟩
    simp only [et, show ((q.toNat : Nat) : Int) = q by omega] at this
    exact this
  · have := d2 ⟨t.toNat, by omega⟩ ⟨q.toNat, by omega⟩
    simp only [et, show ((q.toNat : Nat) : Int) = q by omega] at this
    exact this
  · have := d3 ⟨t.toNat, by omega⟩ ⟨q.toNat, by omega⟩
    simp only [et, show ((q.toNat : Nat) : Int) = q by omega] at this
    exact this
theorem zgift_sum {v z t E : Int} {W : Nat} (h1 : zS (fun i => zecho t ((i : Int) - 3 - v / z)) W = E) (h2 : zS (fun i => zecho t ((i : Int) - 3 - (v / z + 1))) W = E) : zS (fun i => zgift v ((i : Int) - 3) z t) W = z * E := by
  unfold zgift
  rw [zS_add, zS_mul, zS_mul, h1]
  have e : zS (fun i => zecho t ((i : Int) - 3 - v / z - 1)) W = E := by rw [← h2]; exact zS_c _ (fun i _ => by rw [show (i : Int) - 3 - v / z - 1 = (i : Int) - 3 - (v / z + 1) by omega])
  rw [e]
  grind
theorem mAll {g : zGr} (hk : zGok g) {x y : Int} (hx : 0 ≤ x ∧ x < g.1.1) (hy : 0 ≤ y ∧ y < g.1.2.1) : zS (fun n => zgift x (mnI n) g.2.2.1 g.2.2.2.2.1 * zgift y (mnJ n) g.2.2.1 g.2.2.2.2.2.1 * zgift (g.2.1.2.2 x y) (mnK n) g.2.2.2.1 g.2.2.2.2.2.2) 17043 = (g.2.2.1 * g.2.2.1 * g.2.2.2.1) * 2 ^ (2 * (g.2.2.2.2.1 + g.2.2.2.2.2.1 + g.2.2.2.2.2.2)).toNat := by
  obtain ⟨k1, k2, k3, k4, k5, k6, k7, k8, k9, k10⟩ := hk
  have hv := (k10 x y hx hy).2
  have q1 := zz_dq (v := x) (z := g.2.2.1) (M := 15) (by omega) (by omega)
  have q2 := zz_dq (v := y) (z := g.2.2.1) (M := 11) (by omega) (by omega)
  have q3 := zz_d8 (v := g.2.1.2.2 x y) (z := g.2.2.2.1) (by omega) hv
  have s1 := zgift_sum (v := x) (z := g.2.2.1) ((zecho_sum _ k7).1 (x / g.2.2.1) (by omega)) ((zecho_sum _ k7).1 (x / g.2.2.1 + 1) (by omega))
  have s2 := zgift_sum (v := y) (z := g.2.2.1) ((zecho_sum _ k8).2.1 (y / g.2.2.1) (by omega)) ((zecho_sum _ k8).2.1 (y / g.2.2.1 + 1) (by omega))
  have s3 := zgift_sum (v := g.2.1.2.2 x y) (z := g.2.2.2.1) ((zecho_sum _ k9).2.2 (g.2.1.2.2 x y / g.2.2.2.1) (by omega)) ((zecho_sum _ k9).2.2 (g.2.1.2.2 x y / g.2.2.2.1 + 1) (by omega))
  rw [show 17043 = 437 * 39 from rfl, zS_rows]
  have e1 : ∀ c : Nat, c < 437 → zS (fun z => zgift x (mnI (c * 39 + z)) g.2.2.1 g.2.2.2.2.1 * zgift y (mnJ (c * 39 + z)) g.2.2.1 g.2.2.2.2.2.1 * zgift (g.2.1.2.2 x y) (mnK (c * 39 + z)) g.2.2.2.1 g.2.2.2.2.2.2) 39 = zgift x (((c / 19 : Nat) : Int) - 3) g.2.2.1 g.2.2.2.2.1 * zgift y (((c % 19 : Nat) : Int) - 3) g.2.2.1 g.2.2.2.2.2.1 * (g.2.2.2.1 * 2 ^ (2 * g.2.2.2.2.2.2).toNat) := fun c hc => by
    rw [← s3, ← zS_mul]
    refine zS_c _ (fun z hz => ?_)
    rw [show mnI (c * 39 + z) = ((c / 19 : Nat) : Int) - 3 by unfold mnI; omega, show mnJ (c * 39 + z) = ((c % 19 : Nat) : Int) - 3 by unfold mnJ; omega, show mnK (c * 39 + z) = (z : Int) - 3 by unfold mnK; omega]
  rw [zS_c _ e1, show 437 = 23 * 19 from rfl, zS_rows]
  have e2 : ∀ i : Nat, i < 23 → zS (fun j => zgift x ((((i * 19 + j) / 19 : Nat) : Int) - 3) g.2.2.1 g.2.2.2.2.1 * zgift y ((((i * 19 + j) % 19 : Nat) : Int) - 3) g.2.2.1 g.2.2.2.2.2.1 * (g.2.2.2.1 * 2 ^ (2 * g.2.2.2.2.2.2).toNat)) 19 = (g.2.2.1 * 2 ^ (2 * g.2.2.2.2.2.1).toNat) * (g.2.2.2.1 * 2 ^ (2 * g.2.2.2.2.2.2).toNat) * zgift x ((i : Int) - 3) g.2.2.1 g.2.2.2.2.1 := fun i hi => by
    rw [← s2, Int.mul_comm (zS _ 19), Int.mul_assoc, Int.mul_comm (zS _ 19), ← Int.mul_assoc, ← zS_mul]
    refine zS_c _ (fun j hj => ?_)
    rw [show (i * 19 + j) / 19 = i by omega, show (i * 19 + j) % 19 = j by omega]
    grind
  rw [zS_c _ e2, zS_mul, s1, show (2 * (g.2.2.2.2.1 + g.2.2.2.2.2.1 + g.2.2.2.2.2.2)).toNat = (2 * g.2.2.2.2.1).toNat + (2 * g.2.2.2.2.2.1).toNat + (2 * g.2.2.2.2.2.2).toNat by omega, Int.pow_add, Int.pow_add]
  generalize (2 : Int) ^ (2 * g.2.2.2.2.1).toNat = p1
  generalize (2 : Int) ^ (2 * g.2.2.2.2.2.1).toNat = p2
  generalize (2 : Int) ^ (2 * g.2.2.2.2.2.2).toNat = p3
  generalize g.2.2.1 = s
  generalize g.2.2.2.1 = r
  grind
theorem mTotal {g : zGr} (hk : zGok g) : zS (fun n => zwt g (mnI n) (mnJ n) (mnK n)) 17043 = zTot g 0 ∧ zS (fun n => zsm g (mnI n) (mnJ n) (mnK n)) 17043 = zTot g 1 := by
  have hk0 := hk
  obtain ⟨k1, k2, k3, k4, k5, k6, k7, k8, k9, k10⟩ := hk
  constructor
  · unfold zwt
    rw [zS_swap, zsumD_c (fun x y hx hy => mAll hk0 hx hy)]
    unfold zTot
    rw [if_pos rfl, zsumD_S]
    rw [zS_c _ (fun j _ => zS_k _ _), zS_k, show ((g.1.1.toNat : Nat) : Int) = g.1.1 by omega, show ((g.1.2.1.toNat : Nat) : Int) = g.1.2.1 by omega]
    grind
  · unfold zsm
    have e : ∀ x y : Int, 0 ≤ x ∧ x < g.1.1 → 0 ≤ y ∧ y < g.1.2.1 → zS (fun n => zgift x (mnI n) g.2.2.1 g.2.2.2.2.1 * zgift y (mnJ n) g.2.2.1 g.2.2.2.2.2.1 * zgift (g.2.1.2.2 x y) (mnK n) g.2.2.2.1 g.2.2.2.2.2.2 * g.1.2.2 x y) 17043 = ((g.2.2.1 * g.2.2.1 * g.2.2.2.1) * 2 ^ (2 * (g.2.2.2.2.1 + g.2.2.2.2.2.1 + g.2.2.2.2.2.2)).toNat) * g.1.2.2 x y := fun x y hx hy => by
      rw [← mAll hk0 hx hy, Int.mul_comm (zS _ 17043), ← zS_mul]
      exact zS_c _ (fun n _ => Int.mul_comm _ _)
    rw [zS_swap, zsumD_c e, zsumD_mul]
    unfold zTot
    rw [if_neg (by omega)]
    show _ * aSum g.1 = _
    grind
theorem Y_total {G : zG} {C : Nat} {σ τ : zSt} {A : zA} {what : Int} (h : zmR C σ τ A) (hwhat : -2147483648 ≤ what ∧ what ≤ 2147483647) : zC G M_X11_total [.ref C, vi what] (zmS C, σ, τ) (mQl C (sp_total A what)) := by
  refine zC_of 3 rfl (Nat.le_of_ble_eq_true rfl) ?_
  have key : ∀ (b : Nat), aMade A → (0 ≤ what ∧ what ≤ 1) → (b = C + 11 ∧ what = 0 ∨ b = C + 12 ∧ what = 1) → zW G M_X11_total (mQl C (sp_total A what)) 33 [some (.ref C), some (vi what), some (vl (zS (τ b) 0)), none, some (vi (0 : Nat))] [] (zmS C, zu σ C 0 0, τ) := by
    intro b hm hw hb
    have hl := (h.made hm).1
    have hT := mTotal hl.1
    have hgd := hl.gd
    have hS : zS (τ b) 17043 = zTot (aGG A) what := by
      rcases hb with ⟨rfl, rfl⟩ | ⟨rfl, rfl⟩
      · rw [← hT.1]; exact zS_c _ (fun n hn => by have := (hgd n hn).1; rw [Nat.mul_zero, Nat.zero_add] at this; exact this)
      · rw [← hT.2]; exact zS_c _ (fun n hn => by have := (hgd n hn).2; rw [Nat.mul_zero, Nat.zero_add] at this; exact this)
    clear hT hgd
    refine zloop (n := 17043) (L := fun n => zW G M_X11_total (mQl C (sp_total A what)) 33 [some (.ref C), some (vi what), some (vl (zS (τ b) n)), none, some (vi n)] [] (zmS C, zu σ C 0 0, τ)) ?_ ?_
    · rw [hS]
      clear hS
      refine zw_iload 35 rfl dX11_total_33 rfl ?_
      refine zw_sipush 38 rfl dX11_total_35 rfl ?_
      refine zw_icmp_ge 71 41 rfl dX11_total_38 (by decide) (by omega) (by omega) (fun h_38 => ?_) (fun h_38 => ?_)
      · refine zw_aload_n 72 rfl dX11_total_71 rfl ?_
        refine zw_lload_n 73 rfl dX11_total_72 rfl ?_
        refine zw_cVi1 76 rfl dX11_total_73 kX11_total_278 (Nat.le_of_ble_eq_true rfl) (by first | assumption | exact zm_o0 | exact zm_o _ _ _ rfl) m_says ?_
        exact zw_lret (st := []) dX11_total_76 rfl (mReadl h mThrown mScT.rf (by rw [if_pos hm, if_pos hw]) rfl rfl)
      · exfalso; omega
    · intro n hn ih
      clear hS
      refine zw_iload 35 rfl dX11_total_33 rfl ?_
      refine zw_sipush 38 rfl dX11_total_35 rfl ?_
      refine zw_icmp_ge 71 41 rfl dX11_total_38 (by decide) (by omega) (by omega) (fun h_38 => ?_) (fun h_38 => ?_)
      · exfalso; omega
      · refine zw_lload_n 42 rfl dX11_total_41 rfl ?_
        refine zw_iload_n 43 rfl dX11_total_42 rfl ?_
        refine zw_if_ne 56 46 rfl dX11_total_43 (by decide) (by omega) (fun h_43 => ?_) (fun h_43 => ?_)
        · refine zw_aload_n 57 rfl dX11_total_56 rfl ?_
          refine zw_getr 60 rfl dX11_total_57 fl_X11_49 (by first | assumption | exact zm_o0 | exact zm_o _ _ _ rfl) (by first | assumption | exact zm_f _ _ rfl) ?_
          refine zw_iload 62 rfl dX11_total_60 rfl ?_
          refine zw_lald 63 rfl dX11_total_62 (by first | assumption | exact zm_o0 | exact zm_o _ _ _ rfl) (by omega) (by omega) ?_
          first | skip
          refine zw_ladd 64 rfl dX11_total_63 ?_
          refine zw_lstore_n 65 rfl dX11_total_64 (Nat.le_of_ble_eq_true rfl) rfl ?_
          refine zw_iinc 68 rfl dX11_total_65 (Nat.le_of_ble_eq_true rfl) rfl rfl ?_
          refine zw_goto 33 dX11_total_68 (by decide) ?_
          first
          | (have hbb : b = C + 11 := by omega
             subst hbb
             exact ih)
          | (have hbb : b = C + 12 := by omega
             subst hbb
             exact ih)
        · refine zw_aload_n 47 rfl dX11_total_46 rfl ?_
          refine zw_getr 50 rfl dX11_total_47 fl_X11_45 (by first | assumption | exact zm_o0 | exact zm_o _ _ _ rfl) (by first | assumption | exact zm_f _ _ rfl) ?_
          refine zw_iload 52 rfl dX11_total_50 rfl ?_
          refine zw_lald 53 rfl dX11_total_52 (by first | assumption | exact zm_o0 | exact zm_o _ _ _ rfl) (by omega) (by omega) ?_
          rw [Int.toNat_natCast]
          refine zw_goto 63 dX11_total_53 (by decide) ?_
          first | skip
          refine zw_ladd 64 rfl dX11_total_63 ?_
          refine zw_lstore_n 65 rfl dX11_total_64 (Nat.le_of_ble_eq_true rfl) rfl ?_
          refine zw_iinc 68 rfl dX11_total_65 (Nat.le_of_ble_eq_true rfl) rfl rfl ?_
          refine zw_goto 33 dX11_total_68 (by decide) ?_
          first
          | (have hbb : b = C + 11 := by omega
             subst hbb
             exact ih)
          | (have hbb : b = C + 12 := by omega
             subst hbb
             exact ih)
  refine zw_aload_n 1 rfl dX11_total_0 rfl ?_
  refine zw_iconst 2 rfl dX11_total_1 ?_
  refine zw_puti 5 rfl dX11_total_2 fp_X11_85 (by first | assumption | exact zm_o0 | exact zm_o _ _ _ rfl) ?_
  refine zw_aload_n 6 rfl dX11_total_5 rfl ?_
  refine zw_getz 9 rfl dX11_total_6 fl_X11_166 (by first | assumption | exact zm_o0 | exact zm_o _ _ _ rfl) ?_
  rw [zu_k _ _ (by omega), h.has]
  refine zw_if_eqB 21 12 rfl dX11_total_9 (by decide) (fun h_9 => ?_) (fun h_9 => ?_)
  · refine zw_aload_n 22 rfl dX11_total_21 rfl ?_
    refine zw_iconst 23 rfl dX11_total_22 ?_
    refine zw_cVi1 26 rfl dX11_total_23 kX11_total_147 (Nat.le_of_ble_eq_true rfl) (by first | assumption | exact zm_o0 | exact zm_o _ _ _ rfl) m_refused ?_
    refine zw_i2l 27 rfl dX11_total_26 (by omega) ?_
    exact zw_lret (st := []) dX11_total_27 rfl (mRefl h mThrown mScT.rf (by simp only [if_neg h_9, if_true, if_false]) (by omega))
  · refine zw_iload_n 13 rfl dX11_total_12 rfl ?_
    refine zw_iconst 14 rfl dX11_total_13 ?_
    refine zw_iconst 15 rfl dX11_total_14 ?_
    refine zw_cSi3 18 rfl dX11_total_15 kX11_total_106 (Nat.le_of_ble_eq_true rfl) (m_in hwhat (by omega) (by omega)) ?_
    refine zw_if_neB 28 21 rfl dX11_total_18 (by decide) (fun h_18 => ?_) (fun h_18 => ?_)
    · refine zw_lconst 29 rfl dX11_total_28 ?_
      refine zw_lstore_n 30 rfl dX11_total_29 (Nat.le_of_ble_eq_true rfl) rfl ?_
      refine zw_iconst 31 rfl dX11_total_30 ?_
      refine zw_istore 33 rfl dX11_total_31 (Nat.le_of_ble_eq_true rfl) rfl ?_
      by_cases q : what = 0
      · exact key (C + 11) h_9 h_18 (Or.inl ⟨rfl, q⟩)
      · exact key (C + 12) h_9 h_18 (Or.inr ⟨rfl, by omega⟩)
    · refine zw_aload_n 22 rfl dX11_total_21 rfl ?_
      refine zw_iconst 23 rfl dX11_total_22 ?_
      refine zw_cVi1 26 rfl dX11_total_23 kX11_total_147 (Nat.le_of_ble_eq_true rfl) (by first | assumption | exact zm_o0 | exact zm_o _ _ _ rfl) m_refused ?_
      refine zw_i2l 27 rfl dX11_total_26 (by omega) ?_
      exact zw_lret (st := []) dX11_total_27 rfl (mRefl h mThrown mScT.rf (by simp only [if_pos h_9, if_neg h_18, if_true, if_false]) (by omega))
