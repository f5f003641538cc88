def mRM (C : Nat) (σ1 : zSt) (p : zPc) (s : zRm) (σs : zSt) : Prop := (∀ b j, b ≠ C + 20 → b ≠ C + 21 → σs b j = σ1 b j) ∧ (∀ x y, aIn p x y → σs (C + 20) (16 * y + x).toNat = s.1 x y) ∧ ∀ k : Nat, k < 192 → ¬ aIn p ((k : Int) % 16) ((k : Int) / 16) → σs (C + 20) k = -1
theorem m_lays {G : zG} {C : Nat} {σ τ : zSt} {p t : Int} {q : zPc} (hq : mPc C σ p q) (hp5 : p ≤ 5) (ht : 0 ≤ t ∧ t ≤ 255) : zC G M_X11_lays [.ref C, vi p, vi t] (zmS C, σ, τ) (fun r w' => r = some (vi (rFind q t).2) ∧ ∃ σ' : zSt, w' = (zmS C, σ', τ) ∧ mRM C σ q (rFind q t) σ') := by
  have hw := hq.wh
  refine zC_of 3 rfl (Nat.le_of_ble_eq_true rfl) ?_
  have hE : rFind q t = zpt q.1 (fun x y s => rStep q t x y s) (fun _ _ => -1, 0) q.2.1.toNat 0 := zpt_e _ _ _ _
  generalize hF : (fun (x y : Int) (s : zRm) => rStep q t x y s) = F at hE
  have hF' : ∀ x y s, F x y s = rStep q t x y s := fun x y s => by rw [← hF]
  have key : ∀ σs : zSt, mRM C σ q (zpt q.1 F (fun _ _ => -1, 0) 0 0) σs → rJ q (0 * q.1.toNat + 0) (zpt q.1 F (fun _ _ => -1, 0) 0 0) → zW G M_X11_lays (fun r w' => r = some (vi (rFind q t).2) ∧ ∃ σ' : zSt, w' = (zmS C, σ', τ) ∧ mRM C σ q (rFind q t) σ') 27 [some (.ref C), some (vi p), some (vi t), some (vi (zpt q.1 F (fun _ _ => -1, 0) 0 0).2), some (vi (0 : Nat)), none] [] (zmS C, σs, τ) := by
    refine zrows (w := q.1.toNat) (h := q.2.1.toNat) (O := fun j => ∀ σs : zSt, mRM C σ q (zpt q.1 F (fun _ _ => -1, 0) j 0) σs → rJ q (j * q.1.toNat + 0) (zpt q.1 F (fun _ _ => -1, 0) j 0) → zW G M_X11_lays (fun r w' => r = some (vi (rFind q t).2) ∧ ∃ σ' : zSt, w' = (zmS C, σ', τ) ∧ mRM C σ q (rFind q t) σ') 27 [some (.ref C), some (vi p), some (vi t), some (vi (zpt q.1 F (fun _ _ => -1, 0) j 0).2), some (vi j), none] [] (zmS C, σs, τ)) (N := fun j i => ∀ σs : zSt, mRM C σ q (zpt q.1 F (fun _ _ => -1, 0) j i) σs → rJ q (j * q.1.toNat + i) (zpt q.1 F (fun _ _ => -1, 0) j i) → zW G M_X11_lays (fun r w' => r = some (vi (rFind q t).2) ∧ ∃ σ' : zSt, w' = (zmS C, σ', τ) ∧ mRM C σ q (rFind q t) σ') 40 [some (.ref C), some (vi p), some (vi t), some (vi (zpt q.1 F (fun _ _ => -1, 0) j i).2), some (vi j), some (vi i)] [] (zmS C, σs, τ)) ?_ ?_ ?_ ?_
    · intro σs hm hJ
      have hqs : mPc C σs p q := hq.s (by omega) (mSc2.rgn hm.1)
      refine zw_iload 29 rfl dX11_lays_27 rfl ?_
      refine zw_aload_n 30 rfl dX11_lays_29 rfl ?_
      refine zw_iload_n 31 rfl dX11_lays_30 rfl ?_
      refine zw_cVi1 34 rfl dX11_lays_31 kX11_lays_176 (Nat.le_of_ble_eq_true rfl) (by first | assumption | exact zm_o0 | exact zm_o _ _ _ rfl) (m_highP hqs) ?_
      refine zw_icmp_ge 100 37 rfl dX11_lays_34 (by decide) (by omega) (by omega) (fun h_34 => ?_) (fun h_34 => ?_)
      · refine zw_iload_n 101 rfl dX11_lays_100 rfl ?_
        exact zw_iret (st := []) dX11_lays_101 rfl ⟨by rw [hE], _, rfl, by rw [hE]; exact hm⟩
      · omega
    · intro j hj hN
      intro σs hm hJ
      have hqs : mPc C σs p q := hq.s (by omega) (mSc2.rgn hm.1)
      refine zw_iload 29 rfl dX11_lays_27 rfl ?_
      refine zw_aload_n 30 rfl dX11_lays_29 rfl ?_
      refine zw_iload_n 31 rfl dX11_lays_30 rfl ?_
      refine zw_cVi1 34 rfl dX11_lays_31 kX11_lays_176 (Nat.le_of_ble_eq_true rfl) (by first | assumption | exact zm_o0 | exact zm_o _ _ _ rfl) (m_highP hqs) ?_
      refine zw_icmp_ge 100 37 rfl dX11_lays_34 (by decide) (by omega) (by omega) (fun h_34 => ?_) (fun h_34 => ?_)
      · omega
      · refine zw_iconst 38 rfl dX11_lays_37 ?_
        refine zw_istore 40 rfl dX11_lays_38 (Nat.le_of_ble_eq_true rfl) rfl ?_
        exact hN σs hm hJ
    · intro j i hj hi hN
      intro σs hm hJ
      have hqs : mPc C σs p q := hq.s (by omega) (mSc2.rgn hm.1)
      rw [zpt_s, hF'] at hN
      have hb : (j + 1) * q.1.toNat ≤ 12 * 16 := Nat.mul_le_mul (by omega) (by omega)
      rw [Nat.succ_mul] at hb
      generalize zpt q.1 F (fun _ _ => -1, 0) j i = s at *
      have hin : aIn q i j := by omega
      have hrg := hm.2.1 i j hin
      have hrr := hJ.2.2 i j
      have hJ2 := hJ.step (t := t) (x := i) (y := j) (by omega)
      have hst := hJ.start (x := i) (y := j) (by have := hJ.1; omega)
      refine zw_iload 42 rfl dX11_lays_40 rfl ?_
      refine zw_aload_n 43 rfl dX11_lays_42 rfl ?_
      refine zw_iload_n 44 rfl dX11_lays_43 rfl ?_
      refine zw_cVi1 47 rfl dX11_lays_44 kX11_lays_170 (Nat.le_of_ble_eq_true rfl) (by first | assumption | exact zm_o0 | exact zm_o _ _ _ rfl) (m_wideP hqs) ?_
      refine zw_icmp_ge 94 50 rfl dX11_lays_47 (by decide) (by omega) (by omega) (fun h_47 => ?_) (fun h_47 => ?_)
      · omega
      · refine zw_aload_n 51 rfl dX11_lays_50 rfl ?_
        refine zw_getr 54 rfl dX11_lays_51 fl_X11_73 (by first | assumption | exact zm_o0 | exact zm_o _ _ _ rfl) (by first | assumption | exact zm_f _ _ rfl) ?_
        refine zw_bipush 56 rfl dX11_lays_54 rfl ?_
        refine zw_iload 58 rfl dX11_lays_56 rfl ?_
        refine zw_imul 59 rfl dX11_lays_58 ?_
        refine zw_iload 61 rfl dX11_lays_59 rfl ?_
        refine zw_iadd 62 rfl dX11_lays_61 ?_
        refine zw_iald 63 rfl dX11_lays_62 (by first | assumption | exact zm_o0 | exact zm_o _ _ _ rfl) (by omega) (by omega) ?_
        rw [hrg]
        refine zw_iconst 64 rfl dX11_lays_63 ?_
        refine zw_icmp_eq 70 67 rfl dX11_lays_64 (by decide) (by omega) (by omega) (fun h_64 => ?_) (fun h_64 => ?_)
        · refine zw_aload_n 71 rfl dX11_lays_70 rfl ?_
          refine zw_iload_n 72 rfl dX11_lays_71 rfl ?_
          refine zw_iload_n 73 rfl dX11_lays_72 rfl ?_
          refine zw_bipush 75 rfl dX11_lays_73 rfl ?_
          refine zw_iload 77 rfl dX11_lays_75 rfl ?_
          refine zw_imul 78 rfl dX11_lays_77 ?_
          refine zw_iload 80 rfl dX11_lays_78 rfl ?_
          refine zw_iadd 81 rfl dX11_lays_80 ?_
          refine zw_iload_n 82 rfl dX11_lays_81 rfl ?_
          refine zw_cVr4 85 rfl dX11_lays_82 kX11_lays_334 (Nat.le_of_ble_eq_true rfl) (by first | assumption | exact zm_o0 | exact zm_o _ _ _ rfl) (m_fills (s := (s.1, [])) (x := i) (y := j) hq hp5 ⟨hm.1, hm.2.1, hm.2.2, fun k hk => absurd hk (by simp)⟩ rfl hin h_64 hst (by have := hJ.1; omega) ht rfl) ?_
          rintro _ _ ⟨rfl, σ3, rfl, hg⟩
          refine zw_iinc 88 rfl dX11_lays_85 (Nat.le_of_ble_eq_true rfl) rfl rfl ?_
          refine zw_iinc 91 rfl dX11_lays_88 (Nat.le_of_ble_eq_true rfl) rfl rfl ?_
          refine zw_goto 40 dX11_lays_91 (by decide) ?_
          first
          | (rw [rStep, if_pos h_64] at hN hJ2
             exact hN σ3 ⟨hg.1, hg.2.1, hg.2.2.1⟩ hJ2)
          | (rw [rStep, if_neg h_64] at hN hJ2
             exact hN σs hm hJ2)
        · refine zw_goto 88 dX11_lays_67 (by decide) ?_
          refine zw_iinc 91 rfl dX11_lays_88 (Nat.le_of_ble_eq_true rfl) rfl rfl ?_
          refine zw_goto 40 dX11_lays_91 (by decide) ?_
          first
          | (rw [rStep, if_pos h_64] at hN hJ2
             exact hN σ3 ⟨hg.1, hg.2.1, hg.2.2.1⟩ hJ2)
          | (rw [rStep, if_neg h_64] at hN hJ2
             exact hN σs hm hJ2)
    · intro j hj hO
      intro σs hm hJ
      have hqs : mPc C σs p q := hq.s (by omega) (mSc2.rgn hm.1)
      refine zw_iload 42 rfl dX11_lays_40 rfl ?_
      refine zw_aload_n 43 rfl dX11_lays_42 rfl ?_
      refine zw_iload_n 44 rfl dX11_lays_43 rfl ?_
      refine zw_cVi1 47 rfl dX11_lays_44 kX11_lays_170 (Nat.le_of_ble_eq_true rfl) (by first | assumption | exact zm_o0 | exact zm_o _ _ _ rfl) (m_wideP hqs) ?_
      refine zw_icmp_ge 94 50 rfl dX11_lays_47 (by decide) (by omega) (by omega) (fun h_47 => ?_) (fun h_47 => ?_)
      · refine zw_iinc 97 rfl dX11_lays_94 (Nat.le_of_ble_eq_true rfl) rfl rfl ?_
        refine zw_goto 27 dX11_lays_97 (by decide) ?_
        refine zw_drop 5 ?_
        exact hO σs hm (by rw [Nat.succ_mul, Nat.add_zero (j * q.1.toNat + q.1.toNat)]; exact hJ)
      · omega
  have init : ∀ σs : zSt, (∀ b, b ≠ C + 20 → σs b = σ b) → (∀ k, k < 0 → σs (C + 20) k = -1) → zW G M_X11_lays (fun r w' => r = some (vi (rFind q t).2) ∧ ∃ σ' : zSt, w' = (zmS C, σ', τ) ∧ mRM C σ q (rFind q t) σ') 2 [some (.ref C), some (vi p), some (vi t), some (vi (0 : Nat)), none, none] [] (zmS C, σs, τ) := by
    refine zloop (n := 192) (L := fun n => ∀ σs : zSt, (∀ b, b ≠ C + 20 → σs b = σ b) → (∀ k, k < n → σs (C + 20) k = -1) → zW G M_X11_lays (fun r w' => r = some (vi (rFind q t).2) ∧ ∃ σ' : zSt, w' = (zmS C, σ', τ) ∧ mRM C σ q (rFind q t) σ') 2 [some (.ref C), some (vi p), some (vi t), some (vi n), none, none] [] (zmS C, σs, τ)) ?_ ?_
    · intro σs e1 e2
      refine zw_iload_n 3 rfl dX11_lays_2 rfl ?_
      refine zw_sipush 6 rfl dX11_lays_3 rfl ?_
      refine zw_icmp_ge 22 9 rfl dX11_lays_6 (by decide) (by omega) (by omega) (fun h_6 => ?_) (fun h_6 => ?_)
      · refine zw_iconst 23 rfl dX11_lays_22 ?_
        refine zw_istore_n 24 rfl dX11_lays_23 (Nat.le_of_ble_eq_true rfl) rfl ?_
        refine zw_iconst 25 rfl dX11_lays_24 ?_
        refine zw_istore 27 rfl dX11_lays_25 (Nat.le_of_ble_eq_true rfl) rfl ?_
        exact key σs ⟨fun b j h1 h2 => by rw [e1 b h1], fun x y hxy => e2 _ (by omega), fun k hk hn => e2 k hk⟩ ⟨by simp [zpt, zfold], fun x y hxy => by simp [zpt, zfold], fun x y => by simp [zpt, zfold]⟩
      · exfalso; omega
    · intro n hn ih σs e1 e2
      refine zw_iload_n 3 rfl dX11_lays_2 rfl ?_
      refine zw_sipush 6 rfl dX11_lays_3 rfl ?_
      refine zw_icmp_ge 22 9 rfl dX11_lays_6 (by decide) (by omega) (by omega) (fun h_6 => ?_) (fun h_6 => ?_)
      · exfalso; omega
      · refine zw_aload_n 10 rfl dX11_lays_9 rfl ?_
        refine zw_getr 13 rfl dX11_lays_10 fl_X11_73 (by first | assumption | exact zm_o0 | exact zm_o _ _ _ rfl) (by first | assumption | exact zm_f _ _ rfl) ?_
        refine zw_iload_n 14 rfl dX11_lays_13 rfl ?_
        refine zw_iconst 15 rfl dX11_lays_14 ?_
        refine zw_iast 16 rfl dX11_lays_15 (by first | assumption | exact zm_o0 | exact zm_o _ _ _ rfl) (by omega) (by omega) ?_
        refine zw_iinc 19 rfl dX11_lays_16 (Nat.le_of_ble_eq_true rfl) rfl rfl ?_
        refine zw_goto 2 dX11_lays_19 (by decide) ?_
        refine ih _ (fun b hb => by rw [zu_row _ _ hb]; exact e1 b hb) (fun k hk => ?_)
        rw [Int.toNat_natCast, zu_row2]
        show (if k = n then (-1 : Int) else σs (C + 20) k) = -1
        by_cases e : k = n
        · rw [if_pos e]
        · rw [if_neg e]; exact e2 k (by omega)
  refine zw_iconst 1 rfl dX11_lays_0 ?_
  refine zw_istore_n 2 rfl dX11_lays_1 (Nat.le_of_ble_eq_true rfl) rfl ?_
  exact init σ (fun _ _ => rfl) (fun k hk => absurd hk (by omega))
theorem Y_regions {G : zG} {C : Nat} {σ τ : zSt} {A : zA} {p t : Int} (h : zmR C σ τ A) (hp : -2147483648 ≤ p ∧ p ≤ 2147483647) (ht : -2147483648 ≤ t ∧ t ≤ 2147483647) : zC G M_X11_regions [.ref C, vi p, vi t] (zmS C, σ, τ) (mQ C (sp_regions A p t)) := by
  have hP := (mThrown (v := 0)).P h.p
  refine zC_of 0 rfl (Nat.le_of_ble_eq_true rfl) ?_
  refine zw_aload_n 1 rfl dX11_regions_0 rfl ?_
  refine zw_iconst 2 rfl dX11_regions_1 ?_
  refine zw_puti 5 rfl dX11_regions_2 fp_X11_85 (by first | assumption | exact zm_o0 | exact zm_o _ _ _ rfl) ?_
  refine zw_aload_n 6 rfl dX11_regions_5 rfl ?_
  refine zw_iload_n 7 rfl dX11_regions_6 rfl ?_
  refine zw_cVi1 10 rfl dX11_regions_7 kX11_regions_173 (Nat.le_of_ble_eq_true rfl) (by first | assumption | exact zm_o0 | exact zm_o _ _ _ rfl) (m_isPicture hP hp) ?_
  refine zw_if_neB 19 13 rfl dX11_regions_10 (by decide) (fun h_10 => ?_) (fun h_10 => ?_)
  · refine zw_iload_n 20 rfl dX11_regions_19 rfl ?_
    refine zw_iconst 21 rfl dX11_regions_20 ?_
    refine zw_sipush 24 rfl dX11_regions_21 rfl ?_
    refine zw_cSi3 27 rfl dX11_regions_24 kX11_regions_106 (Nat.le_of_ble_eq_true rfl) (m_in ht (by omega) (by omega)) ?_
    refine zw_if_eqB 43 30 rfl dX11_regions_27 (by decide) (fun h_27 => ?_) (fun h_27 => ?_)
    · refine zw_aload_n 44 rfl dX11_regions_43 rfl ?_
      refine zw_iconst 45 rfl dX11_regions_44 ?_
      refine zw_cVi1 48 rfl dX11_regions_45 kX11_regions_147 (Nat.le_of_ble_eq_true rfl) (by first | assumption | exact zm_o0 | exact zm_o _ _ _ rfl) m_refused ?_
      first | exact zw_iret (st := []) dX11_regions_48 rfl (mRead h (mThrown.tr (mSc2.rgn hm.1).s) mScT.rf (by simp only [if_pos h_10, if_neg h_27]) rfl rfl) | exact zw_iret (st := []) dX11_regions_48 rfl (mRef h mThrown mScT.rf (by simp only [if_pos h_10, if_neg h_27]) (by omega))
    · refine zw_aload_n 31 rfl dX11_regions_30 rfl ?_
      refine zw_aload_n 32 rfl dX11_regions_31 rfl ?_
      refine zw_iload_n 33 rfl dX11_regions_32 rfl ?_
      refine zw_iload_n 34 rfl dX11_regions_33 rfl ?_
      refine zw_cVr2 37 rfl dX11_regions_34 kX11_regions_341 (Nat.le_of_ble_eq_true rfl) (by first | assumption | exact zm_o0 | exact zm_o _ _ _ rfl) (m_lays (hP.pc h_10) (by omega) h_27) ?_
      rintro _ _ ⟨rfl, σ3, rfl, hm⟩
      refine zw_cVi1 40 rfl dX11_regions_37 kX11_regions_157 (Nat.le_of_ble_eq_true rfl) (by first | assumption | exact zm_o0 | exact zm_o _ _ _ rfl) m_good ?_
      refine zw_goto 48 dX11_regions_40 (by decide) ?_
      first | exact zw_iret (st := []) dX11_regions_48 rfl (mRead h (mThrown.tr (mSc2.rgn hm.1).s) mScT.rf (by simp only [if_pos h_10, if_pos h_27]) rfl rfl) | exact zw_iret (st := []) dX11_regions_48 rfl (mRef h mThrown mScT.rf (by simp only [if_pos h_10, if_pos h_27]) (by omega))
  · refine zw_aload_n 14 rfl dX11_regions_13 rfl ?_
    refine zw_iconst 15 rfl dX11_regions_14 ?_
    refine zw_cVi1 18 rfl dX11_regions_15 kX11_regions_147 (Nat.le_of_ble_eq_true rfl) (by first | assumption | exact zm_o0 | exact zm_o _ _ _ rfl) m_refused ?_
    first | exact zw_iret (st := []) dX11_regions_18 rfl (mRead h (mThrown.tr (mSc2.rgn hm.1).s) mScT.rf (by simp only [if_neg h_10]) rfl rfl) | exact zw_iret (st := []) dX11_regions_18 rfl (mRef h mThrown mScT.rf (by simp only [if_neg h_10]) (by omega))
theorem Y_regionAt {G : zG} {C : Nat} {σ τ : zSt} {A : zA} {p t x y : Int} (h : zmR C σ τ A) (hp : -2147483648 ≤ p ∧ p ≤ 2147483647) (ht : -2147483648 ≤ t ∧ t ≤ 2147483647) (hx : -2147483648 ≤ x ∧ x ≤ 2147483647) (hy : -2147483648 ≤ y ∧ y ≤ 2147483647) : zC G M_X11_regionAt [.ref C, vi p, vi t, vi x, vi y] (zmS C, σ, τ) (mQ C (sp_regionAt A p t x y)) := by
  have hP := (mThrown (v := 0)).P h.p
  refine zC_of 1 rfl (Nat.le_of_ble_eq_true rfl) ?_
  refine zw_aload_n 1 rfl dX11_regionAt_0 rfl ?_
  refine zw_iconst 2 rfl dX11_regionAt_1 ?_
  refine zw_puti 5 rfl dX11_regionAt_2 fp_X11_85 (by first | assumption | exact zm_o0 | exact zm_o _ _ _ rfl) ?_
  refine zw_aload_n 6 rfl dX11_regionAt_5 rfl ?_
  refine zw_iload_n 7 rfl dX11_regionAt_6 rfl ?_
  refine zw_iload_n 8 rfl dX11_regionAt_7 rfl ?_
  refine zw_iload 10 rfl dX11_regionAt_8 rfl ?_
  refine zw_cVi3 13 rfl dX11_regionAt_10 kX11_regionAt_190 (Nat.le_of_ble_eq_true rfl) (by first | assumption | exact zm_o0 | exact zm_o _ _ _ rfl) (m_isDot hP hp hx hy) ?_
  refine zw_if_neB 22 16 rfl dX11_regionAt_13 (by decide) (fun h_13 => ?_) (fun h_13 => ?_)
  · refine zw_iload_n 23 rfl dX11_regionAt_22 rfl ?_
    refine zw_iconst 24 rfl dX11_regionAt_23 ?_
    refine zw_sipush 27 rfl dX11_regionAt_24 rfl ?_
    refine zw_cSi3 30 rfl dX11_regionAt_27 kX11_regionAt_106 (Nat.le_of_ble_eq_true rfl) (m_in ht (by omega) (by omega)) ?_
    refine zw_if_neB 39 33 rfl dX11_regionAt_30 (by decide) (fun h_30 => ?_) (fun h_30 => ?_)
    · refine zw_aload_n 40 rfl dX11_regionAt_39 rfl ?_
      refine zw_iload_n 41 rfl dX11_regionAt_40 rfl ?_
      refine zw_iload_n 42 rfl dX11_regionAt_41 rfl ?_
      refine zw_cVr2 45 rfl dX11_regionAt_42 kX11_regionAt_341 (Nat.le_of_ble_eq_true rfl) (by first | assumption | exact zm_o0 | exact zm_o _ _ _ rfl) (m_lays (hP.pc h_13.1) (by omega) h_30) ?_
      rintro _ _ ⟨rfl, σ3, rfl, hm⟩
      have hw := (hP.pc h_13.1).wh
      have hJ := rFind_J (p := A.1 p.toNat) (t := t) hw
      have hnn := zz_nn hw.1 hw.2
      have h1 := hm.2.1 x y h_13.2
      have h2 := hJ.2.1 x y h_13.2
      have h3 := hJ.2.2 x y
      have h4 := hJ.1
      refine zw_istore 47 rfl dX11_regionAt_45 (Nat.le_of_ble_eq_true rfl) rfl ?_
      refine zw_aload_n 48 rfl dX11_regionAt_47 rfl ?_
      refine zw_iload 50 rfl dX11_regionAt_48 rfl ?_
      refine zw_if_le 68 53 rfl dX11_regionAt_50 (by decide) (by omega) (fun h_50 => ?_) (fun h_50 => ?_)
      · refine zw_iconst 69 rfl dX11_regionAt_68 ?_
        refine zw_cVi1 72 rfl dX11_regionAt_69 kX11_regionAt_157 (Nat.le_of_ble_eq_true rfl) (by first | assumption | exact zm_o0 | exact zm_o _ _ _ rfl) m_good ?_
        refine zw_iret (st := []) dX11_regionAt_72 rfl (mRead h (mThrown.tr (mSc2.rgn hm.1).s) mScT.rf (by rw [if_pos h_13, if_pos h_30]) ?_ rfl)
        first | rfl | (show (-1 : Int) = (rFind (A.1 p.toNat) t).1 x y; omega)
      · refine zw_aload_n 54 rfl dX11_regionAt_53 rfl ?_
        refine zw_getr 57 rfl dX11_regionAt_54 fl_X11_73 (by first | assumption | exact zm_o0 | exact zm_o _ _ _ rfl) (by first | assumption | exact zm_f _ _ rfl) ?_
        refine zw_bipush 59 rfl dX11_regionAt_57 rfl ?_
        refine zw_iload 61 rfl dX11_regionAt_59 rfl ?_
        refine zw_imul 62 rfl dX11_regionAt_61 ?_
        refine zw_iload_n 63 rfl dX11_regionAt_62 rfl ?_
        refine zw_iadd 64 rfl dX11_regionAt_63 ?_
        refine zw_iald 65 rfl dX11_regionAt_64 (by first | assumption | exact zm_o0 | exact zm_o _ _ _ rfl) (by omega) (by omega) ?_
        rw [h1]
        refine zw_goto 69 dX11_regionAt_65 (by decide) ?_
        refine zw_cVi1 72 rfl dX11_regionAt_69 kX11_regionAt_157 (Nat.le_of_ble_eq_true rfl) (by first | assumption | exact zm_o0 | exact zm_o _ _ _ rfl) m_good ?_
        refine zw_iret (st := []) dX11_regionAt_72 rfl (mRead h (mThrown.tr (mSc2.rgn hm.1).s) mScT.rf (by rw [if_pos h_13, if_pos h_30]) ?_ rfl)
        first | rfl | (show (-1 : Int) = (rFind (A.1 p.toNat) t).1 x y; omega)
    · refine zw_aload_n 34 rfl dX11_regionAt_33 rfl ?_
      refine zw_iconst 35 rfl dX11_regionAt_34 ?_
      refine zw_cVi1 38 rfl dX11_regionAt_35 kX11_regionAt_147 (Nat.le_of_ble_eq_true rfl) (by first | assumption | exact zm_o0 | exact zm_o _ _ _ rfl) m_refused ?_
      exact zw_iret (st := []) dX11_regionAt_38 rfl (mRef h mThrown mScT.rf (by simp only [if_pos h_13, if_neg h_30, if_true, if_false]) (by omega))
  · refine zw_aload_n 17 rfl dX11_regionAt_16 rfl ?_
    refine zw_iconst 18 rfl dX11_regionAt_17 ?_
    refine zw_cVi1 21 rfl dX11_regionAt_18 kX11_regionAt_147 (Nat.le_of_ble_eq_true rfl) (by first | assumption | exact zm_o0 | exact zm_o _ _ _ rfl) m_refused ?_
    exact zw_iret (st := []) dX11_regionAt_21 rfl (mRef h mThrown mScT.rf (by simp only [if_neg h_13, if_true, if_false]) (by omega))
/-! ===== region ===== -/
theorem rEnt_keep {p : zPc} {num x y a b : Int} {s : zRg} (h : s.1 a b ≠ -1) : (rEnt p num x y s).1 a b = s.1 a b := by
  unfold rEnt
  split
  · rename_i q
    show (if a = x ∧ b = y then num else s.1 a b) = s.1 a b
    rw [if_neg (fun e => h (by rw [e.1, e.2]; exact q.2))]
  · rfl
theorem rIf_keep {p : zPc} {num t st x y a b : Int} {s : zRg} (h : s.1 a b ≠ -1) : (rIf p num t st x y s).1 a b = s.1 a b := by
  unfold rIf; split
  · exact rEnt_keep h
  · rfl
theorem rVis_keep {p : zPc} {num t x y a b : Int} {s : zRg} (h : s.1 a b ≠ -1) : (rVis p num t x y s).1 a b = s.1 a b := by
  unfold rVis
  have e1 : (rIf p num t (zStR p x y) (x + 1) y s).1 a b = s.1 a b := rIf_keep h
  have e2 := rIf_keep (p := p) (num := num) (t := t) (st := zStR p (x - 1) y) (x := x - 1) (y := y) (s := rIf p num t (zStR p x y) (x + 1) y s) (by rw [e1]; exact h)
  have e3 := rIf_keep (p := p) (num := num) (t := t) (st := zStD p x y) (x := x) (y := y + 1) (s := rIf p num t (zStR p (x - 1) y) (x - 1) y (rIf p num t (zStR p x y) (x + 1) y s)) (a := a) (b := b) (by rw [e2, e1]; exact h)
  have e4 := rIf_keep (p := p) (num := num) (t := t) (st := zStD p x (y - 1)) (x := x) (y := y - 1) (s := rIf p num t (zStD p x y) x (y + 1) (rIf p num t (zStR p (x - 1) y) (x - 1) y (rIf p num t (zStR p x y) (x + 1) y s))) (a := a) (b := b) (by rw [e3, e2, e1]; exact h)
  rw [e4, e3, e2, e1]
theorem rFl_keep {p : zPc} {num t a b : Int} : ∀ (n k : Nat) (s : zRg), s.1 a b ≠ -1 → (rFl p num t n k s).1 a b = s.1 a b
  | 0, _, _, _ => rfl
  | n + 1, k, s, h => by
    simp only [rFl]
    split
    · rw [rFl_keep n (k + 1) _ (by rw [rVis_keep h]; exact h), rVis_keep h]
    · rfl
/-- each number is some dot's -/
theorem rFind_ex {p : zPc} {t i : Int} (hi : 0 ≤ i ∧ i < (rFind p t).2) : ∃ x y, aIn p x y ∧ (rFind p t).1 x y = i := by
  have key := zwin_rel (f := fun x y s => rStep p t x y s) (g := fun _ _ (u : Unit) => u) (x0 := 0) (x1 := p.1) (y0 := 0) (y1 := p.2.1) (a := (fun _ _ => -1, 0)) (b := ()) (fun (s : zRm) (_ : Unit) => 0 ≤ s.2 ∧ ∀ i, 0 ≤ i ∧ i < s.2 → ∃ x y, aIn p x y ∧ s.1 x y = i) ⟨Int.le_refl _, fun i hi => by simp only at hi; omega⟩ (fun x y s _ hx hy h => by
    unfold rStep
    split
    · rename_i hs
      refine ⟨by show 0 ≤ s.2 + 1; omega, fun i hi => ?_⟩
      have hi : 0 ≤ i ∧ i < s.2 + 1 := hi
      have e0 : (rEnt p s.2 x y (s.1, [])).1 x y = s.2 := by
        unfold rEnt; rw [if_pos ⟨⟨hx, hy⟩, hs⟩]; simp
      by_cases e : i = s.2
      · refine ⟨x, y, ⟨hx, hy⟩, ?_⟩
        show (rFl p s.2 t 192 0 (rEnt p s.2 x y (s.1, []))).1 x y = i
        rw [rFl_keep _ _ _ (by rw [e0]; omega), e0, e]
      · obtain ⟨a, b, hab, hv⟩ := h.2 i (by omega)
        refine ⟨a, b, hab, ?_⟩
        show (rFl p s.2 t 192 0 (rEnt p s.2 x y (s.1, []))).1 a b = i
        have hk : (rEnt p s.2 x y (s.1, [])).1 a b = s.1 a b := rEnt_keep (by rw [hv]; omega)
        rw [rFl_keep _ _ _ (by rw [hk, hv]; omega), hk, hv]
    · exact h)
  exact key.2 i hi
theorem zlow_at {P : Nat → Bool} : ∀ (n k d : Nat), k ≤ d → d < k + n → P d = true → (∀ e, k ≤ e → e < d → P e = false) → zlow P n k = d
  | 0, k, d, h1, h2, _, _ => by omega
  | n + 1, k, d, h1, h2, h3, h4 => by
    simp only [zlow]
    by_cases e : k = d
    · subst e; rw [if_pos h3]
    · rw [h4 k (Nat.le_refl _) (by omega), if_neg (by decide)]
      exact zlow_at n (k + 1) d (by omega) (by omega) h3 (fun e he h5 => h4 e (by omega) h5)
theorem zfst_lin (P : Nat → Bool) : ∀ n : Nat, (zfold (fun d m => if P d then (if m = -1 then (d : Int) else m) else m) n (-1) = -1 ∧ ∀ d, d < n → P d = false) ∨ ∃ d, d < n ∧ P d = true ∧ (∀ e, e < d → P e = false) ∧ zfold (fun d m => if P d then (if m = -1 then (d : Int) else m) else m) n (-1) = d
  | 0 => Or.inl ⟨rfl, fun d h => absurd h (by omega)⟩
  | n + 1 => by
    have e : zfold (fun d m => if P d then (if m = -1 then (d : Int) else m) else m) (n + 1) (-1) = if P n then (if zfold (fun d m => if P d then (if m = -1 then (d : Int) else m) else m) n (-1) = -1 then (n : Int) else zfold (fun d m => if P d then (if m = -1 then (d : Int) else m) else m) n (-1)) else zfold (fun d m => if P d then (if m = -1 then (d : Int) else m) else m) n (-1) := rfl
    rw [e]
    rcases zfst_lin P n with ⟨h1, h2⟩ | ⟨d, h1, h2, h3, h4⟩
    · rw [h1]
      cases hp : P n with
      | true => exact Or.inr ⟨n, by omega, hp, h2, by simp⟩
      | false => exact Or.inl ⟨by simp, fun d hd => by by_cases q : d = n; rw [q]; exact hp; exact h2 d (by omega)⟩
    · refine Or.inr ⟨d, by omega, h2, h3, ?_⟩
      rw [h4]
      (repeat' split) <;> omega
/-- the first dot of a region: in the model's place -/
def rFm (p : zPc) (R : Int → Int → Int) (i : Int) : Int := zwin 0 p.1 0 p.2.1 (fun x y m => if R x y = i then (if m = -1 then 16 * y + x else m) else m) (-1)
theorem rFm_e {p : zPc} {R : Int → Int → Int} {i : Int} (hw : (1 ≤ p.1 ∧ p.1 ≤ 16) ∧ 1 ≤ p.2.1 ∧ p.2.1 ≤ 12) (hx : ∃ x y, aIn p x y ∧ R x y = i) : 0 ≤ rFm p R i ∧ rFm p R i % 16 = rFst p R i % p.1 ∧ rFm p R i / 16 = rFst p R i / p.1 := by
  obtain ⟨x, y, hxy, hv⟩ := hx
  have hwh := zz_wh (w := p.1) (h := p.2.1) (by omega) (by omega)
  generalize hP : (fun (d : Nat) => decide (R ((d : Int) % p.1) ((d : Int) / p.1) = i)) = P
  have hP' : ∀ d : Nat, (P d = true ↔ R ((d : Int) % p.1) ((d : Int) / p.1) = i) := fun d => by rw [← hP]; simp
  have hlin : zwin 0 p.1 0 p.2.1 (fun x y m => if R x y = i then (if m = -1 then y * p.1 + x else m) else m) (-1) = zfold (fun d m => if P d then (if m = -1 then (d : Int) else m) else m) (p.1 * p.2.1).toNat (-1) := by
    refine (zfold_win (F := fun (d : Nat) (m : Int) => if P d then (if m = -1 then (d : Int) else m) else m) (by omega) (by omega) (fun x y hx hy m => ?_) (-1)).symm
    have hix := zz_ix hx hy (by omega) (by omega)
    have e1 : (((y * p.1 + x).toNat : Nat) : Int) = y * p.1 + x := by omega
    have e2 : (y * p.1 + x) % p.1 = x := by rw [Int.add_comm, Int.add_mul_emod_self_right, Int.emod_eq_of_lt hx.1 hx.2]
    have e3 : (y * p.1 + x) / p.1 = y := by rw [Int.add_comm, Int.add_mul_ediv_right _ _ (by omega), Int.ediv_eq_zero_of_lt hx.1 hx.2, Int.zero_add]
    have h := hP' (y * p.1 + x).toNat
    rw [e1, e2, e3] at h
    rw [e1]
    by_cases q : R x y = i
    · rw [if_pos q, if_pos (h.mpr q)]
    · rw [if_neg q, if_neg (fun r => q (h.mp r))]
  have hrel := zwin_rel (f := fun x y (m : Int) => if R x y = i then (if m = -1 then 16 * y + x else m) else m) (g := fun x y (m : Int) => if R x y = i then (if m = -1 then y * p.1 + x else m) else m) (x0 := 0) (x1 := p.1) (y0 := 0) (y1 := p.2.1) (a := -1) (b := -1) (fun m m' => (m = -1 ∧ m' = -1) ∨ ∃ x y, aIn p x y ∧ m = 16 * y + x ∧ m' = y * p.1 + x) (Or.inl ⟨rfl, rfl⟩) (fun x y m m' hx hy h => by
    have hix := zz_ix hx hy (by omega) (by omega)
    by_cases q : R x y = i
    · rw [if_pos q, if_pos q]
      rcases h with ⟨h1, h2⟩ | ⟨a, b, hab, h1, h2⟩
      · rw [if_pos h1, if_pos h2]; exact Or.inr ⟨x, y, ⟨hx, hy⟩, rfl, rfl⟩
      · have := zz_ix hab.1 hab.2 (by omega) (by omega)
        rw [if_neg (by omega), if_neg (by omega)]; exact Or.inr ⟨a, b, hab, h1, h2⟩
    · rw [if_neg q, if_neg q]; exact h)
  rw [hlin] at hrel
  have hne : zfold (fun d m => if P d then (if m = -1 then (d : Int) else m) else m) (p.1 * p.2.1).toNat (-1) ≠ -1 ∧ zfold (fun d m => if P d then (if m = -1 then (d : Int) else m) else m) (p.1 * p.2.1).toNat (-1) = rFst p R i := by
    have hix := zz_ix hxy.1 hxy.2 (by omega) (by omega)
    rcases zfst_lin P (p.1 * p.2.1).toNat with ⟨h1, h2⟩ | ⟨d, h1, h2, h3, h4⟩
    · exfalso
      have := h2 (y * p.1 + x).toNat (by omega)
      have h := (hP' (y * p.1 + x).toNat).mpr ?_
      · rw [this] at h; exact absurd h (by decide)
      · rw [show (((y * p.1 + x).toNat : Nat) : Int) = y * p.1 + x by omega, show (y * p.1 + x) % p.1 = x by rw [Int.add_comm, Int.add_mul_emod_self_right, Int.emod_eq_of_lt hxy.1.1 hxy.1.2], show (y * p.1 + x) / p.1 = y by rw [Int.add_comm, Int.add_mul_ediv_right _ _ (by omega), Int.ediv_eq_zero_of_lt hxy.1.1 hxy.1.2, Int.zero_add]]; exact hv
    · refine ⟨by omega, ?_⟩
      rw [h4]
      unfold rFst
      rw [hP]
      exact (zlow_at (p.1 * p.2.1).toNat 0 d (by omega) (by omega) h2 (fun e _ he => h3 e he)).symm
  rw [hne.2] at hrel
  rcases hrel with ⟨h1, h2⟩ | ⟨a, b, hab, h1, h2⟩
  · exfalso; rw [hne.2] at hne; exact hne.1 h2
  · have h1 : rFm p R i = 16 * b + a := h1
    rw [h1, h2]
    refine ⟨by omega, ?_, ?_⟩
    · rw [Int.add_comm (b * p.1), Int.add_mul_emod_self_right, Int.emod_eq_of_lt hab.1.1 hab.1.2]; omega
    · rw [Int.add_comm (b * p.1), Int.add_mul_ediv_right _ _ (by omega), Int.ediv_eq_zero_of_lt hab.1.1 hab.1.2, Int.zero_add]; omega
/-- a loop over all places of the model's row, as one over the picture -/
theorem mRM.lin {C : Nat} {σ1 σs : zSt} {p : zPc} {s : zRm} {i : Int} {α : Type} (hm : mRM C σ1 p s σs) (hw : (1 ≤ p.1 ∧ p.1 ≤ 16) ∧ 1 ≤ p.2.1 ∧ p.2.1 ≤ 12) (hi : 0 ≤ i) (g : Int → Int → α → α) (a : α) : zfold (fun (k : Nat) (m : α) => if σs (C + 20) k = i then g ((k : Int) % 16) ((k : Int) / 16) m else m) 192 a = zwin 0 p.1 0 p.2.1 (fun x y m => if s.1 x y = i then g x y m else m) a := by
  have h1 := zfold_win (F := fun (k : Nat) (m : α) => if σs (C + 20) k = i then g ((k : Int) % 16) ((k : Int) / 16) m else m) (F' := fun x y m => if (0 ≤ 0 + x ∧ 0 + x < p.1) ∧ 0 ≤ 0 + y ∧ 0 + y < p.2.1 then (if s.1 (0 + x) (0 + y) = i then g (0 + x) (0 + y) m else m) else m) (w := 16) (h := 12) (by omega) (by omega) (fun x y hx hy m => by
    have e1 : (((y * 16 + x).toNat : Nat) : Int) = y * 16 + x := by omega
    rw [e1, show (y * 16 + x) % 16 = x by omega, show (y * 16 + x) / 16 = y by omega, Int.zero_add, Int.zero_add]
    by_cases q : aIn p x y
    · have := hm.2.1 x y q
      rw [show 16 * y + x = y * 16 + x by omega] at this
      rw [this, if_pos q]
    · have := hm.2.2 (y * 16 + x).toNat (by omega) (by rw [e1, show (y * 16 + x) % 16 = x by omega, show (y * 16 + x) / 16 = y by omega]; exact q)
      rw [this, if_neg (by omega), if_neg q]) a
  rw [show ((16 : Int) * 12).toNat = 192 from rfl] at h1
  rw [h1, zwin_clip (fun x y m => if s.1 x y = i then g x y m else m) (by omega) (by omega) a]
  rw [show zmx 0 0 = 0 by unfold zmx; split <;> omega, show zmn (0 + 16) p.1 = p.1 by unfold zmn; split <;> omega, show zmn (0 + 12) p.2.1 = p.2.1 by unfold zmn; split <;> omega]
