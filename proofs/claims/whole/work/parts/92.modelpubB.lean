/-! ===== set, fill, part ===== -/
theorem mrPic.put {f f' : Nat → Int} {o : Nat} {p : zPc} {x y v : Int} (h : mrPic f o p) (h0 : 0 < p.1) (hx : 0 ≤ x ∧ x < p.1) (hy : 0 ≤ y ∧ y < p.2.1) (hv : 0 ≤ v ∧ v ≤ 255) (hf : f' = fun j => if j = o + 2 + (16 * y + x).toNat then v else f j) : mrPic f' o (aPut p x y v) := by
  obtain ⟨h1, h2, h3⟩ := h
  obtain ⟨g1, g2, g3⟩ := h3 h0
  subst hf
  refine ⟨by show (if o = _ then v else f o) = p.1; rw [if_neg (by omega)]; exact h1, h2, fun _ => ⟨by show (if o + 1 = _ then v else f (o + 1)) = p.2.1; rw [if_neg (by omega)]; exact g1, g2, fun a b ha hb => ?_⟩⟩
  have ha : 0 ≤ a ∧ a < p.1 := ha
  have hb : 0 ≤ b ∧ b < p.2.1 := hb
  show (if o + 2 + (16 * b + a).toNat = o + 2 + (16 * y + x).toNat then v else f (o + 2 + (16 * b + a).toNat)) = (if a = x ∧ b = y then v else p.2.2 a b) ∧ 0 ≤ (if a = x ∧ b = y then v else p.2.2 a b) ∧ (if a = x ∧ b = y then v else p.2.2 a b) ≤ 255
  by_cases e : a = x ∧ b = y
  · rw [if_pos e, if_pos (by rw [e.1, e.2])]; exact ⟨rfl, hv⟩
  · rw [if_neg e, if_neg (by omega)]; exact g3 a b ha hb
theorem Y_set {G : zG} {C : Nat} {σ τ : zSt} {A : zA} {p x y v : Int} (h : zmR C σ τ A) (hp : -2147483648 ≤ p ∧ p ≤ 2147483647) (hx : -2147483648 ≤ x ∧ x ≤ 2147483647) (hy : -2147483648 ≤ y ∧ y ≤ 2147483647) (hv : -2147483648 ≤ v ∧ v ≤ 2147483647) : zC G M_X11_set [.ref C, vi p, vi x, vi y, vi v] (zmS C, σ, τ) (mQ C (sp_set A p x y v)) := by
  have hP := (mThrown (v := 0)).P h.p
  have hH := (mThrown (v := 0)).H h.hs
  refine zC_of 1 rfl (Nat.le_of_ble_eq_true rfl) ?_
  refine zw_aload_n 1 rfl dX11_set_0 rfl ?_
  refine zw_iconst 2 rfl dX11_set_1 ?_
  refine zw_puti 5 rfl dX11_set_2 fp_X11_85 (by first | assumption | exact zm_o0 | exact zm_o _ _ _ rfl) ?_
  refine zw_aload_n 6 rfl dX11_set_5 rfl ?_
  refine zw_iload_n 7 rfl dX11_set_6 rfl ?_
  refine zw_iload_n 8 rfl dX11_set_7 rfl ?_
  refine zw_iload_n 9 rfl dX11_set_8 rfl ?_
  refine zw_cVi3 12 rfl dX11_set_9 kX11_set_190 (Nat.le_of_ble_eq_true rfl) (by first | assumption | exact zm_o0 | exact zm_o _ _ _ rfl) (m_isDot hP hp hx hy) ?_
  refine zw_if_neB 21 15 rfl dX11_set_12 (by decide) (fun h_12 => ?_) (fun h_12 => ?_)
  · refine zw_iload 23 rfl dX11_set_21 rfl ?_
    refine zw_iconst 24 rfl dX11_set_23 ?_
    refine zw_sipush 27 rfl dX11_set_24 rfl ?_
    refine zw_cSi3 30 rfl dX11_set_27 kX11_set_106 (Nat.le_of_ble_eq_true rfl) (m_in hv (by omega) (by omega)) ?_
    refine zw_if_neB 39 33 rfl dX11_set_30 (by decide) (fun h_30 => ?_) (fun h_30 => ?_)
    · refine zw_aload_n 40 rfl dX11_set_39 rfl ?_
      refine zw_cVr0 43 rfl dX11_set_40 kX11_set_179 (Nat.le_of_ble_eq_true rfl) (by first | assumption | exact zm_o0 | exact zm_o _ _ _ rfl) (m_remembers hP hH) ?_
      rintro _ _ ⟨rfl, σ2, rfl, hR⟩
      have e9 : σ2 (C + 9) = zu σ C 0 0 (C + 9) := funext fun j => hR.2 _ _ (by omega) (by omega)
      have hP2 : mrP (σ2 (C + 9)) 0 A.1 := by rw [e9]; exact hP
      have hq := hP2.pc h_12.1
      have hw := hq.wh
      refine zw_aload_n 44 rfl dX11_set_43 rfl ?_
      refine zw_iload_n 45 rfl dX11_set_44 rfl ?_
      refine zw_iload_n 46 rfl dX11_set_45 rfl ?_
      refine zw_iload_n 47 rfl dX11_set_46 rfl ?_
      refine zw_cVi3 50 rfl dX11_set_47 kX11_set_182 (Nat.le_of_ble_eq_true rfl) (by first | assumption | exact zm_o0 | exact zm_o _ _ _ rfl) (m_dotP hq h_12.2.1 h_12.2.2) ?_
      refine zw_istore 52 rfl dX11_set_50 (Nat.le_of_ble_eq_true rfl) rfl ?_
      refine zw_aload_n 53 rfl dX11_set_52 rfl ?_
      refine zw_iload_n 54 rfl dX11_set_53 rfl ?_
      refine zw_iload_n 55 rfl dX11_set_54 rfl ?_
      refine zw_iload_n 56 rfl dX11_set_55 rfl ?_
      refine zw_iload 58 rfl dX11_set_56 rfl ?_
      refine zw_cVv4 61 rfl dX11_set_58 kX11_set_193 (Nat.le_of_ble_eq_true rfl) (by first | assumption | exact zm_o0 | exact zm_o _ _ _ rfl) (m_puts (by omega) (by omega) (by omega)) ?_
      refine zw_aload_n 62 rfl dX11_set_61 rfl ?_
      refine zw_iload 64 rfl dX11_set_62 rfl ?_
      refine zw_cVi1 67 rfl dX11_set_64 kX11_set_157 (Nat.le_of_ble_eq_true rfl) (by first | assumption | exact zm_o0 | exact zm_o _ _ _ rfl) m_good ?_
      refine zw_iret (st := []) dX11_set_67 rfl (mAct (σw := zu σ C 0 0) (p := aPut (A.1 p.toNat) x y v) (to := p.toNat) h mThrown mScT.rf ⟨?_, ?_, ?_⟩ (by simp only [if_pos h_12, if_pos h_30]))
      · intro i hi
        by_cases e : i = p.toNat
        · subst e
          rw [va_up_self, Nat.zero_add]
          exact hq.2.1.put hq.2.2 h_12.2.1 h_12.2.2 h_30 (zu_row2 _ _ _ _)
        · rw [va_up_ne _ _ e]
          exact (hP2 i hi).mv (fun j hj => zu_k _ _ (by omega))
      · exact hR.1.c (zu_a _ _ (by omega)) (fun j => zu_a _ _ (by omega))
      · intro b j b1 b2 b3; rw [zu_a _ _ b1]; exact hR.2 b j b2 b3
    · refine zw_aload_n 34 rfl dX11_set_33 rfl ?_
      refine zw_iconst 35 rfl dX11_set_34 ?_
      refine zw_cVi1 38 rfl dX11_set_35 kX11_set_147 (Nat.le_of_ble_eq_true rfl) (by first | assumption | exact zm_o0 | exact zm_o _ _ _ rfl) m_refused ?_
      exact zw_iret (st := []) dX11_set_38 rfl (mRef h mThrown mScT.rf (by simp only [if_pos h_12, if_neg h_30, if_true, if_false]) (by omega))
  · refine zw_aload_n 16 rfl dX11_set_15 rfl ?_
    refine zw_iconst 17 rfl dX11_set_16 ?_
    refine zw_cVi1 20 rfl dX11_set_17 kX11_set_147 (Nat.le_of_ble_eq_true rfl) (by first | assumption | exact zm_o0 | exact zm_o _ _ _ rfl) m_refused ?_
    exact zw_iret (st := []) dX11_set_20 rfl (mRef h mThrown mScT.rf (by simp only [if_neg h_12, if_true, if_false]) (by omega))
theorem Y_fill {G : zG} {C : Nat} {σ τ : zSt} {A : zA} {to w hh v : Int} (h : zmR C σ τ A) (hto : -2147483648 ≤ to ∧ to ≤ 2147483647) (hw : -2147483648 ≤ w ∧ w ≤ 2147483647) (hhh : -2147483648 ≤ hh ∧ hh ≤ 2147483647) (hv : -2147483648 ≤ v ∧ v ≤ 2147483647) : zC G M_X11_fill [.ref C, vi to, vi w, vi hh, vi v] (zmS C, σ, τ) (mQ C (sp_fill A to w hh v)) := by
  refine zC_of 2 rfl (Nat.le_of_ble_eq_true rfl) ?_
  by_cases hc : aPl to ∧ ((1 ≤ w ∧ w ≤ 16) ∧ 1 ≤ hh ∧ hh ≤ 12) ∧ 0 ≤ v ∧ v ≤ 255
  · obtain ⟨hc1, hc2, hc3⟩ := hc
    have key : ∀ σs : zSt, mNw C σ (w) (w) (hh) (fun _ _ => v) mAt 0 0 σs → zW G M_X11_fill (mQ C (sp_fill A to w hh v)) 67 [some (.ref C), some (vi to), some (vi w), some (vi hh), some (vi v), some (vi (0 : Nat)), none] [] (zmS C, σs, τ) := by
      refine zrows (w := (w).toNat) (h := (hh).toNat) (O := fun j => ∀ σs : zSt, mNw C σ (w) (w) (hh) (fun _ _ => v) mAt j 0 σs → zW G M_X11_fill (mQ C (sp_fill A to w hh v)) 67 [some (.ref C), some (vi to), some (vi w), some (vi hh), some (vi v), some (vi j), none] [] (zmS C, σs, τ)) (N := fun j i => ∀ σs : zSt, mNw C σ (w) (w) (hh) (fun _ _ => v) mAt j i σs → zW G M_X11_fill (mQ C (sp_fill A to w hh v)) 76 [some (.ref C), some (vi to), some (vi w), some (vi hh), some (vi v), some (vi j), some (vi i)] [] (zmS C, σs, τ)) ?_ ?_ ?_ ?_
      · intro σs hl
        have hpic := hl.pic (by omega) (by omega) (by omega) (fun _ _ _ _ => hc3)
        refine zw_iload 69 rfl dX11_fill_67 rfl ?_
        refine zw_iload_n 70 rfl dX11_fill_69 rfl ?_
        refine zw_icmp_ge 106 73 rfl dX11_fill_70 (by decide) (by omega) (by omega) (fun h_70 => ?_) (fun h_70 => ?_)
        · refine zw_aload_n 107 rfl dX11_fill_106 rfl ?_
          refine zw_iload_n 108 rfl dX11_fill_107 rfl ?_
          refine zw_cVr1 111 rfl dX11_fill_108 kX11_fill_203 (Nat.le_of_ble_eq_true rfl) (by first | assumption | exact zm_o0 | exact zm_o _ _ _ rfl) (m_becomes (hl.1.s.P h.p) (hl.1.s.H h.hs) hpic hc1) ?_
          rintro _ _ ⟨rfl, σ2, rfl, hA⟩
          refine zw_aload_n 112 rfl dX11_fill_111 rfl ?_
          refine zw_iconst 113 rfl dX11_fill_112 ?_
          refine zw_cVi1 116 rfl dX11_fill_113 kX11_fill_197 (Nat.le_of_ble_eq_true rfl) (by first | assumption | exact zm_o0 | exact zm_o _ _ _ rfl) m_yes ?_
          exact zw_zret (st := []) dX11_fill_116 rfl (by omega) (mAct h hl.1.s mScT.rf hA (by simp only [if_pos hc1, if_pos hc2, if_pos hc3]))
        · omega
      · intro j hj hN
        intro σs hl
        refine zw_iload 69 rfl dX11_fill_67 rfl ?_
        refine zw_iload_n 70 rfl dX11_fill_69 rfl ?_
        refine zw_icmp_ge 106 73 rfl dX11_fill_70 (by decide) (by omega) (by omega) (fun h_70 => ?_) (fun h_70 => ?_)
        · omega
        · refine zw_iconst 74 rfl dX11_fill_73 ?_
          refine zw_istore 76 rfl dX11_fill_74 (Nat.le_of_ble_eq_true rfl) rfl ?_
          exact hN σs hl
      · intro j i hj hi hN
        intro σs hl
        refine zw_iload 78 rfl dX11_fill_76 rfl ?_
        refine zw_iload_n 79 rfl dX11_fill_78 rfl ?_
        refine zw_icmp_ge 100 82 rfl dX11_fill_79 (by decide) (by omega) (by omega) (fun h_79 => ?_) (fun h_79 => ?_)
        · omega
        · refine zw_aload_n 83 rfl dX11_fill_82 rfl ?_
          refine zw_bipush 85 rfl dX11_fill_83 rfl ?_
          refine zw_iload 87 rfl dX11_fill_85 rfl ?_
          refine zw_iload 89 rfl dX11_fill_87 rfl ?_
          refine zw_iload 91 rfl dX11_fill_89 rfl ?_
          refine zw_cVv4 94 rfl dX11_fill_91 kX11_fill_193 (Nat.le_of_ble_eq_true rfl) (by first | assumption | exact zm_o0 | exact zm_o _ _ _ rfl) (m_putsN (by omega) (by omega)) ?_
          refine zw_iinc 97 rfl dX11_fill_94 (Nat.le_of_ble_eq_true rfl) rfl rfl ?_
          refine zw_goto 76 dX11_fill_97 (by decide) ?_
          exact hN _ (hl.put1 (by omega) (by omega) (by omega) (by omega) (by omega) (rfl))
      · intro j hj hO
        intro σs hl
        refine zw_iload 78 rfl dX11_fill_76 rfl ?_
        refine zw_iload_n 79 rfl dX11_fill_78 rfl ?_
        refine zw_icmp_ge 100 82 rfl dX11_fill_79 (by decide) (by omega) (by omega) (fun h_79 => ?_) (fun h_79 => ?_)
        · refine zw_iinc 103 rfl dX11_fill_100 (Nat.le_of_ble_eq_true rfl) rfl rfl ?_
          refine zw_goto 67 dX11_fill_103 (by decide) ?_
          refine zw_drop 6 ?_
          exact hO σs hl.row
        · omega
    refine zw_aload_n 1 rfl dX11_fill_0 rfl ?_
    refine zw_iconst 2 rfl dX11_fill_1 ?_
    refine zw_puti 5 rfl dX11_fill_2 fp_X11_85 (by first | assumption | exact zm_o0 | exact zm_o _ _ _ rfl) ?_
    refine zw_iload_n 6 rfl dX11_fill_5 rfl ?_
    refine zw_iconst 7 rfl dX11_fill_6 ?_
    refine zw_iconst 8 rfl dX11_fill_7 ?_
    refine zw_cSi3 11 rfl dX11_fill_8 kX11_fill_106 (Nat.le_of_ble_eq_true rfl) (m_in (by omega) (by omega) (by omega)) ?_
    refine zw_if_neB 20 14 rfl dX11_fill_11 (by decide) (fun h_11 => ?_) (fun h_11 => ?_)
    · refine zw_iload_n 21 rfl dX11_fill_20 rfl ?_
      refine zw_iconst 22 rfl dX11_fill_21 ?_
      refine zw_bipush 24 rfl dX11_fill_22 rfl ?_
      refine zw_cSi3 27 rfl dX11_fill_24 kX11_fill_106 (Nat.le_of_ble_eq_true rfl) (m_in (by omega) (by omega) (by omega)) ?_
      refine zw_if_eqB 52 30 rfl dX11_fill_27 (by decide) (fun h_27 => ?_) (fun h_27 => ?_)
      · first | exact absurd hc2.1 h_27 | exact absurd hc2.2 h_37 | exact absurd hc3 h_49
      · refine zw_iload_n 31 rfl dX11_fill_30 rfl ?_
        refine zw_iconst 32 rfl dX11_fill_31 ?_
        refine zw_bipush 34 rfl dX11_fill_32 rfl ?_
        refine zw_cSi3 37 rfl dX11_fill_34 kX11_fill_106 (Nat.le_of_ble_eq_true rfl) (m_in (by omega) (by omega) (by omega)) ?_
        refine zw_if_eqB 52 40 rfl dX11_fill_37 (by decide) (fun h_37 => ?_) (fun h_37 => ?_)
        · first | exact absurd hc2.1 h_27 | exact absurd hc2.2 h_37 | exact absurd hc3 h_49
        · refine zw_iload 42 rfl dX11_fill_40 rfl ?_
          refine zw_iconst 43 rfl dX11_fill_42 ?_
          refine zw_sipush 46 rfl dX11_fill_43 rfl ?_
          refine zw_cSi3 49 rfl dX11_fill_46 kX11_fill_106 (Nat.le_of_ble_eq_true rfl) (m_in (by omega) (by omega) (by omega)) ?_
          refine zw_if_neB 58 52 rfl dX11_fill_49 (by decide) (fun h_49 => ?_) (fun h_49 => ?_)
          · refine zw_aload_n 59 rfl dX11_fill_58 rfl ?_
            refine zw_iload_n 60 rfl dX11_fill_59 rfl ?_
            refine zw_iload_n 61 rfl dX11_fill_60 rfl ?_
            refine zw_cVv2 64 rfl dX11_fill_61 kX11_fill_200 (Nat.le_of_ble_eq_true rfl) (by first | assumption | exact zm_o0 | exact zm_o _ _ _ rfl) m_begins ?_
            refine zw_iconst 65 rfl dX11_fill_64 ?_
            refine zw_istore 67 rfl dX11_fill_65 (Nat.le_of_ble_eq_true rfl) rfl ?_
            exact key _ (mNw.start (mSc2.rf.u (by unfold mKey2 mKey; omega)))
          · first | exact absurd hc2.1 h_27 | exact absurd hc2.2 h_37 | exact absurd hc3 h_49
    · exact absurd hc1 h_11
  refine zw_aload_n 1 rfl dX11_fill_0 rfl ?_
  refine zw_iconst 2 rfl dX11_fill_1 ?_
  refine zw_puti 5 rfl dX11_fill_2 fp_X11_85 (by first | assumption | exact zm_o0 | exact zm_o _ _ _ rfl) ?_
  refine zw_iload_n 6 rfl dX11_fill_5 rfl ?_
  refine zw_iconst 7 rfl dX11_fill_6 ?_
  refine zw_iconst 8 rfl dX11_fill_7 ?_
  refine zw_cSi3 11 rfl dX11_fill_8 kX11_fill_106 (Nat.le_of_ble_eq_true rfl) (m_in (by omega) (by omega) (by omega)) ?_
  refine zw_if_neB 20 14 rfl dX11_fill_11 (by decide) (fun h_11 => ?_) (fun h_11 => ?_)
  · refine zw_iload_n 21 rfl dX11_fill_20 rfl ?_
    refine zw_iconst 22 rfl dX11_fill_21 ?_
    refine zw_bipush 24 rfl dX11_fill_22 rfl ?_
    refine zw_cSi3 27 rfl dX11_fill_24 kX11_fill_106 (Nat.le_of_ble_eq_true rfl) (m_in (by omega) (by omega) (by omega)) ?_
    refine zw_if_eqB 52 30 rfl dX11_fill_27 (by decide) (fun h_27 => ?_) (fun h_27 => ?_)
    · refine zw_aload_n 53 rfl dX11_fill_52 rfl ?_
      refine zw_iconst 54 rfl dX11_fill_53 ?_
      refine zw_cVi1 57 rfl dX11_fill_54 kX11_fill_197 (Nat.le_of_ble_eq_true rfl) (by first | assumption | exact zm_o0 | exact zm_o _ _ _ rfl) (m_no (by omega) (by omega)) ?_
      exact zw_zret (st := []) dX11_fill_57 rfl (by omega) (mRef h mThrown mScT.rf (by first | (rw [if_pos h_11, if_neg (fun q => h_27 q.1)]; done) | (rw [if_pos h_11, if_neg (fun q => h_37 q.2)]; done) | (rw [if_pos h_11, if_pos ⟨h_27, h_37⟩, if_neg h_49]; done)) (by omega))
    · refine zw_iload_n 31 rfl dX11_fill_30 rfl ?_
      refine zw_iconst 32 rfl dX11_fill_31 ?_
      refine zw_bipush 34 rfl dX11_fill_32 rfl ?_
      refine zw_cSi3 37 rfl dX11_fill_34 kX11_fill_106 (Nat.le_of_ble_eq_true rfl) (m_in (by omega) (by omega) (by omega)) ?_
      refine zw_if_eqB 52 40 rfl dX11_fill_37 (by decide) (fun h_37 => ?_) (fun h_37 => ?_)
      · refine zw_aload_n 53 rfl dX11_fill_52 rfl ?_
        refine zw_iconst 54 rfl dX11_fill_53 ?_
        refine zw_cVi1 57 rfl dX11_fill_54 kX11_fill_197 (Nat.le_of_ble_eq_true rfl) (by first | assumption | exact zm_o0 | exact zm_o _ _ _ rfl) (m_no (by omega) (by omega)) ?_
        exact zw_zret (st := []) dX11_fill_57 rfl (by omega) (mRef h mThrown mScT.rf (by first | (rw [if_pos h_11, if_neg (fun q => h_27 q.1)]; done) | (rw [if_pos h_11, if_neg (fun q => h_37 q.2)]; done) | (rw [if_pos h_11, if_pos ⟨h_27, h_37⟩, if_neg h_49]; done)) (by omega))
      · refine zw_iload 42 rfl dX11_fill_40 rfl ?_
        refine zw_iconst 43 rfl dX11_fill_42 ?_
        refine zw_sipush 46 rfl dX11_fill_43 rfl ?_
        refine zw_cSi3 49 rfl dX11_fill_46 kX11_fill_106 (Nat.le_of_ble_eq_true rfl) (m_in (by omega) (by omega) (by omega)) ?_
        refine zw_if_neB 58 52 rfl dX11_fill_49 (by decide) (fun h_49 => ?_) (fun h_49 => ?_)
        · exact absurd ⟨h_11, ⟨h_27, h_37⟩, h_49⟩ hc
        · refine zw_aload_n 53 rfl dX11_fill_52 rfl ?_
          refine zw_iconst 54 rfl dX11_fill_53 ?_
          refine zw_cVi1 57 rfl dX11_fill_54 kX11_fill_197 (Nat.le_of_ble_eq_true rfl) (by first | assumption | exact zm_o0 | exact zm_o _ _ _ rfl) (m_no (by omega) (by omega)) ?_
          exact zw_zret (st := []) dX11_fill_57 rfl (by omega) (mRef h mThrown mScT.rf (by first | (rw [if_pos h_11, if_neg (fun q => h_27 q.1)]; done) | (rw [if_pos h_11, if_neg (fun q => h_37 q.2)]; done) | (rw [if_pos h_11, if_pos ⟨h_27, h_37⟩, if_neg h_49]; done)) (by omega))
  · refine zw_aload_n 15 rfl dX11_fill_14 rfl ?_
    refine zw_iconst 16 rfl dX11_fill_15 ?_
    refine zw_cVi1 19 rfl dX11_fill_16 kX11_fill_197 (Nat.le_of_ble_eq_true rfl) (by first | assumption | exact zm_o0 | exact zm_o _ _ _ rfl) (m_no (by omega) (by omega)) ?_
    exact zw_zret (st := []) dX11_fill_19 rfl (by omega) (mRef h mThrown mScT.rf (by simp only [if_neg h_11, if_true, if_false]) (by omega))
theorem Y_part {G : zG} {C : Nat} {σ τ : zSt} {A : zA} {to of x y w hh : Int} (h : zmR C σ τ A) (hto : -2147483648 ≤ to ∧ to ≤ 2147483647) (hof : -2147483648 ≤ of ∧ of ≤ 2147483647) (hx : -2147483648 ≤ x ∧ x ≤ 2147483647) (hy : -2147483648 ≤ y ∧ y ≤ 2147483647) (hw : -2147483648 ≤ w ∧ w ≤ 2147483647) (hhh : -2147483648 ≤ hh ∧ hh ≤ 2147483647) : zC G M_X11_part [.ref C, vi to, vi of, vi x, vi y, vi w, vi hh] (zmS C, σ, τ) (mQ C (sp_part A to of x y w hh)) := by
  have hP := (mThrown (v := 0)).P h.p
  refine zC_of 2 rfl (Nat.le_of_ble_eq_true rfl) ?_
  by_cases hc : aPl to ∧ aDot A of x y ∧ (1 ≤ w ∧ w ≤ (A.1 of.toNat).1 - x) ∧ 1 ≤ hh ∧ hh ≤ (A.1 of.toNat).2.1 - y
  · obtain ⟨hc1, hc2, hc3, hc4⟩ := hc
    have hq := h.p.pc hc2.1
    have hw := hq.wh
    have key : ∀ σs : zSt, mNw C σ (w) (w) (hh) ((aPart (A.1 of.toNat) x y w hh).2.2) mAt 0 0 σs → zW G M_X11_part (mQ C (sp_part A to of x y w hh)) 81 [some (.ref C), some (vi to), some (vi of), some (vi x), some (vi y), some (vi w), some (vi hh), some (vi (0 : Nat)), none] [] (zmS C, σs, τ) := by
      refine zrows (w := (w).toNat) (h := (hh).toNat) (O := fun j => ∀ σs : zSt, mNw C σ (w) (w) (hh) ((aPart (A.1 of.toNat) x y w hh).2.2) mAt j 0 σs → zW G M_X11_part (mQ C (sp_part A to of x y w hh)) 81 [some (.ref C), some (vi to), some (vi of), some (vi x), some (vi y), some (vi w), some (vi hh), some (vi j), none] [] (zmS C, σs, τ)) (N := fun j i => ∀ σs : zSt, mNw C σ (w) (w) (hh) ((aPart (A.1 of.toNat) x y w hh).2.2) mAt j i σs → zW G M_X11_part (mQ C (sp_part A to of x y w hh)) 91 [some (.ref C), some (vi to), some (vi of), some (vi x), some (vi y), some (vi w), some (vi hh), some (vi j), some (vi i)] [] (zmS C, σs, τ)) ?_ ?_ ?_ ?_
      · intro σs hl
        have hpic := hl.pic (by omega) (by omega) (by omega) (fun a b ha hb => hq.d (by omega) (by omega))
        refine zw_iload 83 rfl dX11_part_81 rfl ?_
        refine zw_iload 85 rfl dX11_part_83 rfl ?_
        refine zw_icmp_ge 134 88 rfl dX11_part_85 (by decide) (by omega) (by omega) (fun h_85 => ?_) (fun h_85 => ?_)
        · refine zw_aload_n 135 rfl dX11_part_134 rfl ?_
          refine zw_iload_n 136 rfl dX11_part_135 rfl ?_
          refine zw_cVr1 139 rfl dX11_part_136 kX11_part_203 (Nat.le_of_ble_eq_true rfl) (by first | assumption | exact zm_o0 | exact zm_o _ _ _ rfl) (m_becomes (hl.1.s.P h.p) (hl.1.s.H h.hs) hpic hc1) ?_
          rintro _ _ ⟨rfl, σ2, rfl, hA⟩
          refine zw_aload_n 140 rfl dX11_part_139 rfl ?_
          refine zw_iconst 141 rfl dX11_part_140 ?_
          refine zw_cVi1 144 rfl dX11_part_141 kX11_part_197 (Nat.le_of_ble_eq_true rfl) (by first | assumption | exact zm_o0 | exact zm_o _ _ _ rfl) m_yes ?_
          exact zw_zret (st := []) dX11_part_144 rfl (by omega) (mAct h hl.1.s mScT.rf hA (by simp only [if_pos hc1, if_pos hc2, if_pos hc3, if_pos hc4]))
        · omega
      · intro j hj hN
        intro σs hl
        refine zw_iload 83 rfl dX11_part_81 rfl ?_
        refine zw_iload 85 rfl dX11_part_83 rfl ?_
        refine zw_icmp_ge 134 88 rfl dX11_part_85 (by decide) (by omega) (by omega) (fun h_85 => ?_) (fun h_85 => ?_)
        · omega
        · refine zw_iconst 89 rfl dX11_part_88 ?_
          refine zw_istore 91 rfl dX11_part_89 (Nat.le_of_ble_eq_true rfl) rfl ?_
          exact hN σs hl
      · intro j i hj hi hN
        intro σs hl
        refine zw_iload 93 rfl dX11_part_91 rfl ?_
        refine zw_iload 95 rfl dX11_part_93 rfl ?_
        refine zw_icmp_ge 128 98 rfl dX11_part_95 (by decide) (by omega) (by omega) (fun h_95 => ?_) (fun h_95 => ?_)
        · omega
        · refine zw_aload_n 99 rfl dX11_part_98 rfl ?_
          refine zw_bipush 101 rfl dX11_part_99 rfl ?_
          refine zw_iload 103 rfl dX11_part_101 rfl ?_
          refine zw_iload 105 rfl dX11_part_103 rfl ?_
          refine zw_aload_n 106 rfl dX11_part_105 rfl ?_
          refine zw_iload_n 107 rfl dX11_part_106 rfl ?_
          refine zw_iload_n 108 rfl dX11_part_107 rfl ?_
          refine zw_iload 110 rfl dX11_part_108 rfl ?_
          refine zw_iadd 111 rfl dX11_part_110 ?_
          refine zw_iload 113 rfl dX11_part_111 rfl ?_
          refine zw_iload 115 rfl dX11_part_113 rfl ?_
          refine zw_iadd 116 rfl dX11_part_115 ?_
          refine zw_cVi3 119 rfl dX11_part_116 kX11_part_182 (Nat.le_of_ble_eq_true rfl) (by first | assumption | exact zm_o0 | exact zm_o _ _ _ rfl) (m_dotP (hq.s (by omega) hl.1) (by omega) (by omega)) ?_
          refine zw_cVv4 122 rfl dX11_part_119 kX11_part_193 (Nat.le_of_ble_eq_true rfl) (by first | assumption | exact zm_o0 | exact zm_o _ _ _ rfl) (m_putsN (by omega) (by omega)) ?_
          refine zw_iinc 125 rfl dX11_part_122 (Nat.le_of_ble_eq_true rfl) rfl rfl ?_
          refine zw_goto 91 dX11_part_125 (by decide) ?_
          exact hN _ (hl.put1 (by omega) (by omega) (by omega) (by omega) (by omega) (rfl))
      · intro j hj hO
        intro σs hl
        refine zw_iload 93 rfl dX11_part_91 rfl ?_
        refine zw_iload 95 rfl dX11_part_93 rfl ?_
        refine zw_icmp_ge 128 98 rfl dX11_part_95 (by decide) (by omega) (by omega) (fun h_95 => ?_) (fun h_95 => ?_)
        · refine zw_iinc 131 rfl dX11_part_128 (Nat.le_of_ble_eq_true rfl) rfl rfl ?_
          refine zw_goto 81 dX11_part_131 (by decide) ?_
          refine zw_drop 8 ?_
          exact hO σs hl.row
        · omega
    refine zw_aload_n 1 rfl dX11_part_0 rfl ?_
    refine zw_iconst 2 rfl dX11_part_1 ?_
    refine zw_puti 5 rfl dX11_part_2 fp_X11_85 (by first | assumption | exact zm_o0 | exact zm_o _ _ _ rfl) ?_
    refine zw_iload_n 6 rfl dX11_part_5 rfl ?_
    refine zw_iconst 7 rfl dX11_part_6 ?_
    refine zw_iconst 8 rfl dX11_part_7 ?_
    refine zw_cSi3 11 rfl dX11_part_8 kX11_part_106 (Nat.le_of_ble_eq_true rfl) (m_in (by omega) (by omega) (by omega)) ?_
    refine zw_if_eqB 25 14 rfl dX11_part_11 (by decide) (fun h_11 => ?_) (fun h_11 => ?_)
    · first | exact absurd hc1 h_11 | exact absurd hc2 h_22
    · refine zw_aload_n 15 rfl dX11_part_14 rfl ?_
      refine zw_iload_n 16 rfl dX11_part_15 rfl ?_
      refine zw_iload_n 17 rfl dX11_part_16 rfl ?_
      refine zw_iload 19 rfl dX11_part_17 rfl ?_
      refine zw_cVi3 22 rfl dX11_part_19 kX11_part_190 (Nat.le_of_ble_eq_true rfl) (by first | assumption | exact zm_o0 | exact zm_o _ _ _ rfl) (m_isDot hP hof hx hy) ?_
      refine zw_if_neB 31 25 rfl dX11_part_22 (by decide) (fun h_22 => ?_) (fun h_22 => ?_)
      · refine zw_iload 33 rfl dX11_part_31 rfl ?_
        refine zw_iconst 34 rfl dX11_part_33 ?_
        refine zw_aload_n 35 rfl dX11_part_34 rfl ?_
        refine zw_iload_n 36 rfl dX11_part_35 rfl ?_
        refine zw_cVi1 39 rfl dX11_part_36 kX11_part_170 (Nat.le_of_ble_eq_true rfl) (by first | assumption | exact zm_o0 | exact zm_o _ _ _ rfl) (m_wideP (hP.pc hc2.1)) ?_
        refine zw_iload_n 40 rfl dX11_part_39 rfl ?_
        refine zw_isub 41 rfl dX11_part_40 ?_
        refine zw_cSi3 44 rfl dX11_part_41 kX11_part_106 (Nat.le_of_ble_eq_true rfl) (m_in (by omega) (by omega) (by omega)) ?_
        refine zw_if_eqB 64 47 rfl dX11_part_44 (by decide) (fun h_44 => ?_) (fun h_44 => ?_)
        · first | exact absurd hc3 h_44 | exact absurd hc4 h_61
        · refine zw_iload 49 rfl dX11_part_47 rfl ?_
          refine zw_iconst 50 rfl dX11_part_49 ?_
          refine zw_aload_n 51 rfl dX11_part_50 rfl ?_
          refine zw_iload_n 52 rfl dX11_part_51 rfl ?_
          refine zw_cVi1 55 rfl dX11_part_52 kX11_part_176 (Nat.le_of_ble_eq_true rfl) (by first | assumption | exact zm_o0 | exact zm_o _ _ _ rfl) (m_highP (hP.pc hc2.1)) ?_
          refine zw_iload 57 rfl dX11_part_55 rfl ?_
          refine zw_isub 58 rfl dX11_part_57 ?_
          refine zw_cSi3 61 rfl dX11_part_58 kX11_part_106 (Nat.le_of_ble_eq_true rfl) (m_in (by omega) (by omega) (by omega)) ?_
          refine zw_if_neB 70 64 rfl dX11_part_61 (by decide) (fun h_61 => ?_) (fun h_61 => ?_)
          · refine zw_aload_n 71 rfl dX11_part_70 rfl ?_
            refine zw_iload 73 rfl dX11_part_71 rfl ?_
            refine zw_iload 75 rfl dX11_part_73 rfl ?_
            refine zw_cVv2 78 rfl dX11_part_75 kX11_part_200 (Nat.le_of_ble_eq_true rfl) (by first | assumption | exact zm_o0 | exact zm_o _ _ _ rfl) m_begins ?_
            refine zw_iconst 79 rfl dX11_part_78 ?_
            refine zw_istore 81 rfl dX11_part_79 (Nat.le_of_ble_eq_true rfl) rfl ?_
            exact key _ (mNw.start (mSc2.rf.u (by unfold mKey2 mKey; omega)))
          · first | exact absurd hc3 h_44 | exact absurd hc4 h_61
      · first | exact absurd hc1 h_11 | exact absurd hc2 h_22
  refine zw_aload_n 1 rfl dX11_part_0 rfl ?_
  refine zw_iconst 2 rfl dX11_part_1 ?_
  refine zw_puti 5 rfl dX11_part_2 fp_X11_85 (by first | assumption | exact zm_o0 | exact zm_o _ _ _ rfl) ?_
  refine zw_iload_n 6 rfl dX11_part_5 rfl ?_
  refine zw_iconst 7 rfl dX11_part_6 ?_
  refine zw_iconst 8 rfl dX11_part_7 ?_
  refine zw_cSi3 11 rfl dX11_part_8 kX11_part_106 (Nat.le_of_ble_eq_true rfl) (m_in (by omega) (by omega) (by omega)) ?_
  refine zw_if_eqB 25 14 rfl dX11_part_11 (by decide) (fun h_11 => ?_) (fun h_11 => ?_)
  · refine zw_aload_n 26 rfl dX11_part_25 rfl ?_
    refine zw_iconst 27 rfl dX11_part_26 ?_
    refine zw_cVi1 30 rfl dX11_part_27 kX11_part_197 (Nat.le_of_ble_eq_true rfl) (by first | assumption | exact zm_o0 | exact zm_o _ _ _ rfl) (m_no (by omega) (by omega)) ?_
    exact zw_zret (st := []) dX11_part_30 rfl (by omega) (mRef h mThrown mScT.rf (by simp only [if_neg h_11, if_true, if_false]) (by omega))
  · refine zw_aload_n 15 rfl dX11_part_14 rfl ?_
    refine zw_iload_n 16 rfl dX11_part_15 rfl ?_
    refine zw_iload_n 17 rfl dX11_part_16 rfl ?_
    refine zw_iload 19 rfl dX11_part_17 rfl ?_
    refine zw_cVi3 22 rfl dX11_part_19 kX11_part_190 (Nat.le_of_ble_eq_true rfl) (by first | assumption | exact zm_o0 | exact zm_o _ _ _ rfl) (m_isDot hP hof hx hy) ?_
    refine zw_if_neB 31 25 rfl dX11_part_22 (by decide) (fun h_22 => ?_) (fun h_22 => ?_)
    · have hw := (hP.pc h_22.1).wh
      refine zw_iload 33 rfl dX11_part_31 rfl ?_
      refine zw_iconst 34 rfl dX11_part_33 ?_
      refine zw_aload_n 35 rfl dX11_part_34 rfl ?_
      refine zw_iload_n 36 rfl dX11_part_35 rfl ?_
      refine zw_cVi1 39 rfl dX11_part_36 kX11_part_170 (Nat.le_of_ble_eq_true rfl) (by first | assumption | exact zm_o0 | exact zm_o _ _ _ rfl) (m_wideP (hP.pc h_22.1)) ?_
      refine zw_iload_n 40 rfl dX11_part_39 rfl ?_
      refine zw_isub 41 rfl dX11_part_40 ?_
      refine zw_cSi3 44 rfl dX11_part_41 kX11_part_106 (Nat.le_of_ble_eq_true rfl) (m_in (by omega) (by omega) (by omega)) ?_
      refine zw_if_eqB 64 47 rfl dX11_part_44 (by decide) (fun h_44 => ?_) (fun h_44 => ?_)
      · refine zw_aload_n 65 rfl dX11_part_64 rfl ?_
        refine zw_iconst 66 rfl dX11_part_65 ?_
        refine zw_cVi1 69 rfl dX11_part_66 kX11_part_197 (Nat.le_of_ble_eq_true rfl) (by first | assumption | exact zm_o0 | exact zm_o _ _ _ rfl) (m_no (by omega) (by omega)) ?_
        exact zw_zret (st := []) dX11_part_69 rfl (by omega) (mRef h mThrown mScT.rf (by simp only [if_pos h_11, if_pos h_22, if_neg h_44, if_true, if_false]) (by omega))
      · refine zw_iload 49 rfl dX11_part_47 rfl ?_
        refine zw_iconst 50 rfl dX11_part_49 ?_
        refine zw_aload_n 51 rfl dX11_part_50 rfl ?_
        refine zw_iload_n 52 rfl dX11_part_51 rfl ?_
        refine zw_cVi1 55 rfl dX11_part_52 kX11_part_176 (Nat.le_of_ble_eq_true rfl) (by first | assumption | exact zm_o0 | exact zm_o _ _ _ rfl) (m_highP (hP.pc h_22.1)) ?_
        refine zw_iload 57 rfl dX11_part_55 rfl ?_
        refine zw_isub 58 rfl dX11_part_57 ?_
        refine zw_cSi3 61 rfl dX11_part_58 kX11_part_106 (Nat.le_of_ble_eq_true rfl) (m_in (by omega) (by omega) (by omega)) ?_
        refine zw_if_neB 70 64 rfl dX11_part_61 (by decide) (fun h_61 => ?_) (fun h_61 => ?_)
        · exact absurd ⟨h_11, h_22, h_44, h_61⟩ hc
        · refine zw_aload_n 65 rfl dX11_part_64 rfl ?_
          refine zw_iconst 66 rfl dX11_part_65 ?_
          refine zw_cVi1 69 rfl dX11_part_66 kX11_part_197 (Nat.le_of_ble_eq_true rfl) (by first | assumption | exact zm_o0 | exact zm_o _ _ _ rfl) (m_no (by omega) (by omega)) ?_
          exact zw_zret (st := []) dX11_part_69 rfl (by omega) (mRef h mThrown mScT.rf (by simp only [if_pos h_11, if_pos h_22, if_pos h_44, if_neg h_61, if_true, if_false]) (by omega))
    · refine zw_aload_n 26 rfl dX11_part_25 rfl ?_
      refine zw_iconst 27 rfl dX11_part_26 ?_
      refine zw_cVi1 30 rfl dX11_part_27 kX11_part_197 (Nat.le_of_ble_eq_true rfl) (by first | assumption | exact zm_o0 | exact zm_o _ _ _ rfl) (m_no (by omega) (by omega)) ?_
      exact zw_zret (st := []) dX11_part_30 rfl (by omega) (mRef h mThrown mScT.rf (by simp only [if_pos h_11, if_neg h_22, if_true, if_false]) (by omega))
