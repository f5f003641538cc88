/-! ===== write ===== -/
def mWI (C : Nat) (σr : zSt) (l : List Int) (σs : zSt) : Prop := (∀ b j, b ≠ C + 22 → ¬ (b = C ∧ j = 44) → σs b j = σr b j) ∧ σs C 44 = l.length ∧ ∀ i : Nat, i < l.length → σs (C + 22) i = l.getD i 0
theorem mWI.app {C : Nat} {σr σs : zSt} {l : List Int} {v : Int} (h : mWI C σr l σs) : mWI C σr (l ++ [v]) (zu (zu σs (C + 22) l.length v) C 44 (l.length + 1)) := by
  obtain ⟨h1, h2, h3⟩ := h
  refine ⟨fun b j b1 b2 => by rw [zu_ne _ _ b2, zu_a _ _ b1]; exact h1 b j b1 b2, by rw [zu_eq, List.length_append]; rfl, fun i hi => ?_⟩
  rw [List.length_append, List.length_singleton] at hi
  rw [zu_a _ _ (by omega)]
  by_cases e : i = l.length
  · subst e; rw [zu_eq]; simp
  · rw [zu_k _ _ e, h3 i (by omega)]
    simp only [List.getD_eq_getElem?_getD]
    rw [List.getElem?_append_left (by omega)]
theorem mSc2.ink {C : Nat} {σ σ' : zSt} {p : Int} {q : zPc} (h : ∀ b j, b ≠ C + 22 → ¬ (b = C ∧ j = 44) → σ' b j = σ b j) (hq : mPc C σ p q) : mPc C σ' p q := hq.c (fun j _ => h _ _ (by omega) (by omega))
theorem zmR.ink {C : Nat} {σ σs τ : zSt} {A : zA} {l : List Int} {v : Int} (h : zmR C σ τ A) (hl : mWI C (zu σ C 0 v) l σs) (hn : l.length ≤ 203) : zmR C (zu (zu σs C 1 0) C 2 (-1)) τ (aSet (A.1, A.2.1, A.2.2.1, A.2.2.2.1, A.2.2.2.2.1, A.2.2.2.2.2.1, l) 0) := by
  obtain ⟨a1, a2, a3, a4, a5, a6, a7⟩ := h
  obtain ⟨h1, h2, h3⟩ := hl
  generalize hσ2 : zu (zu σs C 1 0) C 2 (-1) = σ2
  have f1 : ∀ b j, ¬ (b = C ∧ j = 1) → ¬ (b = C ∧ j = 2) → σ2 b j = σs b j := fun b j h1 h2 => by rw [← hσ2, zu_ne _ _ h2, zu_ne _ _ h1]
  have f2 : ∀ b j, b ≠ C + 22 → (b = C → j ≠ 44 ∧ j ≠ 1 ∧ j ≠ 2 ∧ j ≠ 0) → σ2 b j = σ b j := fun b j q1 q2 => by rw [f1 b j (by omega) (by omega), h1 b j q1 (by omega), zu_ne _ _ (by omega)]
  refine ⟨a1.mv (fun j _ => f2 _ _ (by omega) (by omega)), a2.c (f2 _ _ (by omega) (by omega)) (fun j => f2 _ _ (by omega) (by omega)), a3.c (f2 _ _ (by omega) (by omega)) (fun j => f2 _ _ (by omega) (by omega)), ⟨by rw [← hσ2, zu_k _ _ (by omega), zu_eq]; rfl, by rw [← hσ2, zu_eq]; rfl, (f2 C 7 (by omega) (by omega)).trans a4.2.2⟩, a5.c (f2 _ _ (by omega) (by omega)) (fun j => f2 _ _ (by omega) (by omega)) (fun j => f2 _ _ (by omega) (by omega)), ?_, ⟨by rw [f1 _ _ (by omega) (by omega)]; exact h2, hn, fun i hi => by rw [f1 _ _ (by omega) (by omega)]; exact h3 i hi⟩⟩
  show mrG C σ2 τ (aG A)
  generalize aG A = g at a6
  cases g with
  | none => exact (f2 C 32 (by omega) (by omega)).trans a6
  | some g => exact ⟨(f2 C 32 (by omega) (by omega)).trans a6.1, a6.2.1.c (f2 _ _ (by omega) (by omega)) (f2 _ _ (by omega) (by omega)) (fun j hj => f2 _ _ (by omega) (by omega)) (fun j hj => ⟨rfl, rfl⟩), a6.2.2.mv (fun j _ => f2 _ _ (by omega) (by omega))⟩
theorem Y_write {G : zG} {C : Nat} {σ τ : zSt} {A : zA} {p : Int} (h : zmR C σ τ A) (hp : -2147483648 ≤ p ∧ p ≤ 2147483647) : zC G M_X11_write [.ref C, vi p] (zmS C, σ, τ) (mQ C (sp_write A p)) := by
  have hP := (mThrown (v := 0)).P h.p
  refine zC_of 2 rfl (Nat.le_of_ble_eq_true rfl) ?_
  by_cases hc : aTold A p
  · have hq := hP.pc hc
    have hw := hq.wh
    have hE : aInk (A.1 p.toNat) = (zfold (fun (j : Nat) (l : List Int) => aInkR (A.1 p.toNat) j (if 0 < j then l ++ [47] else l)) (A.1 p.toNat).2.1.toNat []) := rfl
    have hlen : ∀ j : Nat, (zfold (fun (j : Nat) (l : List Int) => aInkR (A.1 p.toNat) j (if 0 < j then l ++ [47] else l)) j []).length + (if 0 < j then 1 else 0) = j * ((A.1 p.toNat).1.toNat + 1) := by
      intro j
      induction j with
      | zero => simp [zfold]
      | succ j ih =>
        show (aInkR (A.1 p.toNat) (j : Nat) (if 0 < j then (zfold (fun (j : Nat) (l : List Int) => aInkR (A.1 p.toNat) j (if 0 < j then l ++ [47] else l)) j []) ++ [47] else (zfold (fun (j : Nat) (l : List Int) => aInkR (A.1 p.toNat) j (if 0 < j then l ++ [47] else l)) j []))).length + _ = _
        generalize (zfold (fun (j : Nat) (l : List Int) => aInkR (A.1 p.toNat) j (if 0 < j then l ++ [47] else l)) j []) = l at ih ⊢
        unfold aInkR
        rw [aInkR_len, if_pos (show 0 < j + 1 by omega), Nat.succ_mul, ← ih]
        by_cases e : 0 < j
        · rw [if_pos e, if_pos e, List.length_append, List.length_singleton]; omega
        · rw [if_neg e, if_neg e]; omega
    have hlen2 : ∀ j i : Nat, (zfold (fun (i : Nat) (l : List Int) => l ++ [97 + znear ((A.1 p.toNat).2.2 i (j : Nat)) 17]) i (if 0 < j then (zfold (fun (j : Nat) (l : List Int) => aInkR (A.1 p.toNat) j (if 0 < j then l ++ [47] else l)) j []) ++ [47] else (zfold (fun (j : Nat) (l : List Int) => aInkR (A.1 p.toNat) j (if 0 < j then l ++ [47] else l)) j []))).length = j * ((A.1 p.toNat).1.toNat + 1) + i := by
      intro j i
      rw [aInkR_len, ← hlen j]
      by_cases e : 0 < j
      · rw [if_pos e, if_pos e]; simp
      · rw [if_neg e, if_neg e]; rfl
    have key : ∀ σs : zSt, mWI C (zu σ C 0 0) (zfold (fun (j : Nat) (l : List Int) => aInkR (A.1 p.toNat) j (if 0 < j then l ++ [47] else l)) 0 []) σs → zW G M_X11_write (mQ C (sp_write A p)) 26 [some (.ref C), some (vi p), some (vi (0 : Nat)), none] [] (zmS C, σs, τ) := by
      refine zrows (w := (A.1 p.toNat).1.toNat) (h := (A.1 p.toNat).2.1.toNat) (O := fun j => ∀ σs : zSt, mWI C (zu σ C 0 0) (zfold (fun (j : Nat) (l : List Int) => aInkR (A.1 p.toNat) j (if 0 < j then l ++ [47] else l)) j []) σs → zW G M_X11_write (mQ C (sp_write A p)) 26 [some (.ref C), some (vi p), some (vi j), none] [] (zmS C, σs, τ)) (N := fun j i => ∀ σs : zSt, mWI C (zu σ C 0 0) (zfold (fun (i : Nat) (l : List Int) => l ++ [97 + znear ((A.1 p.toNat).2.2 i (j : Nat)) 17]) i (if 0 < j then (zfold (fun (j : Nat) (l : List Int) => aInkR (A.1 p.toNat) j (if 0 < j then l ++ [47] else l)) j []) ++ [47] else (zfold (fun (j : Nat) (l : List Int) => aInkR (A.1 p.toNat) j (if 0 < j then l ++ [47] else l)) j []))) σs → zW G M_X11_write (mQ C (sp_write A p)) 62 [some (.ref C), some (vi p), some (vi j), some (vi i)] [] (zmS C, σs, τ)) ?_ ?_ ?_ ?_
      · intro σs hl
        have hqs := mSc2.ink hl.1 hq
        have hl2 := hl.2.1
        have hll := hlen (A.1 p.toNat).2.1.toNat
        rw [← hE] at hl hll
        have hb : (A.1 p.toNat).2.1.toNat * ((A.1 p.toNat).1.toNat + 1) ≤ 12 * 17 := Nat.mul_le_mul (by omega) (by omega)
        rw [if_pos (by omega)] at hll
        refine zw_iload_n 27 rfl dX11_write_26 rfl ?_
        refine zw_aload_n 28 rfl dX11_write_27 rfl ?_
        refine zw_iload_n 29 rfl dX11_write_28 rfl ?_
        refine zw_cVi1 32 rfl dX11_write_29 kX11_write_176 (Nat.le_of_ble_eq_true rfl) (by first | assumption | exact zm_o0 | exact zm_o _ _ _ rfl) (m_highP hqs) ?_
        refine zw_icmp_ge 119 35 rfl dX11_write_32 (by decide) (by omega) (by omega) (fun h_32 => ?_) (fun h_32 => ?_)
        · refine zw_aload_n 120 rfl dX11_write_119 rfl ?_
          refine zw_aload_n 121 rfl dX11_write_120 rfl ?_
          refine zw_geti 124 rfl dX11_write_121 fl_X11_350 (by first | assumption | exact zm_o0 | exact zm_o _ _ _ rfl) ?_
          rw [hl.2.1]
          refine zw_cVi1 127 rfl dX11_write_124 kX11_write_157 (Nat.le_of_ble_eq_true rfl) (by first | assumption | exact zm_o0 | exact zm_o _ _ _ rfl) m_good ?_
          refine zw_iret (st := []) dX11_write_127 rfl ?_
          unfold sp_write
          rw [aAns, if_pos (if_pos hc)]
          exact ⟨rfl, _, _, rfl, h.ink hl (by omega)⟩
        · omega
      · intro j hj hN
        intro σs hl
        have hqs := mSc2.ink hl.1 hq
        have hl2 := hl.2.1
        have hll := hlen j
        have hb : j * ((A.1 p.toNat).1.toNat + 1) ≤ 11 * 17 := Nat.mul_le_mul (by omega) (by omega)
        refine zw_iload_n 27 rfl dX11_write_26 rfl ?_
        refine zw_aload_n 28 rfl dX11_write_27 rfl ?_
        refine zw_iload_n 29 rfl dX11_write_28 rfl ?_
        refine zw_cVi1 32 rfl dX11_write_29 kX11_write_176 (Nat.le_of_ble_eq_true rfl) (by first | assumption | exact zm_o0 | exact zm_o _ _ _ rfl) (m_highP hqs) ?_
        refine zw_icmp_ge 119 35 rfl dX11_write_32 (by decide) (by omega) (by omega) (fun h_32 => ?_) (fun h_32 => ?_)
        · omega
        · refine zw_iload_n 36 rfl dX11_write_35 rfl ?_
          refine zw_if_le 60 39 rfl dX11_write_36 (by decide) (by omega) (fun h_36 => ?_) (fun h_36 => ?_)
          · refine zw_iconst 61 rfl dX11_write_60 ?_
            refine zw_istore_n 62 rfl dX11_write_61 (Nat.le_of_ble_eq_true rfl) rfl ?_
            first
            | (exact hN _ (by show mWI C (zu σ C 0 0) (if 0 < j then (zfold (fun (j : Nat) (l : List Int) => aInkR (A.1 p.toNat) j (if 0 < j then l ++ [47] else l)) j []) ++ [47] else (zfold (fun (j : Nat) (l : List Int) => aInkR (A.1 p.toNat) j (if 0 < j then l ++ [47] else l)) j [])) _; rw [if_pos (by omega)]; exact hl.app))
            | (exact hN _ (by show mWI C (zu σ C 0 0) (if 0 < j then (zfold (fun (j : Nat) (l : List Int) => aInkR (A.1 p.toNat) j (if 0 < j then l ++ [47] else l)) j []) ++ [47] else (zfold (fun (j : Nat) (l : List Int) => aInkR (A.1 p.toNat) j (if 0 < j then l ++ [47] else l)) j [])) _; rw [if_neg (by omega)]; exact hl))
          · refine zw_aload_n 40 rfl dX11_write_39 rfl ?_
            refine zw_getr 43 rfl dX11_write_40 fl_X11_79 (by first | assumption | exact zm_o0 | exact zm_o _ _ _ rfl) (by first | assumption | exact zm_f _ _ rfl) ?_
            refine zw_aload_n 44 rfl dX11_write_43 rfl ?_
            refine zw_geti 47 rfl dX11_write_44 fl_X11_350 (by first | assumption | exact zm_o0 | exact zm_o _ _ _ rfl) ?_
            rw [hl2]
            refine zw_bipush 49 rfl dX11_write_47 rfl ?_
            refine zw_iast 50 rfl dX11_write_49 (by first | assumption | exact zm_o0 | exact zm_o _ _ _ rfl) (by omega) (by omega) ?_
            rw [Int.toNat_natCast]
            refine zw_aload_n 51 rfl dX11_write_50 rfl ?_
            refine zw_dup 52 rfl dX11_write_51 rfl ?_
            refine zw_geti 55 rfl dX11_write_52 fl_X11_350 (by first | assumption | exact zm_o0 | exact zm_o _ _ _ rfl) ?_
            rw [zu_a _ _ (by omega), hl2]
            refine zw_iconst 56 rfl dX11_write_55 ?_
            refine zw_iadd 57 rfl dX11_write_56 ?_
            refine zw_puti 60 rfl dX11_write_57 fp_X11_350 (by first | assumption | exact zm_o0 | exact zm_o _ _ _ rfl) ?_
            refine zw_iconst 61 rfl dX11_write_60 ?_
            refine zw_istore_n 62 rfl dX11_write_61 (Nat.le_of_ble_eq_true rfl) rfl ?_
            first
            | (exact hN _ (by show mWI C (zu σ C 0 0) (if 0 < j then (zfold (fun (j : Nat) (l : List Int) => aInkR (A.1 p.toNat) j (if 0 < j then l ++ [47] else l)) j []) ++ [47] else (zfold (fun (j : Nat) (l : List Int) => aInkR (A.1 p.toNat) j (if 0 < j then l ++ [47] else l)) j [])) _; rw [if_pos (by omega)]; exact hl.app))
            | (exact hN _ (by show mWI C (zu σ C 0 0) (if 0 < j then (zfold (fun (j : Nat) (l : List Int) => aInkR (A.1 p.toNat) j (if 0 < j then l ++ [47] else l)) j []) ++ [47] else (zfold (fun (j : Nat) (l : List Int) => aInkR (A.1 p.toNat) j (if 0 < j then l ++ [47] else l)) j [])) _; rw [if_neg (by omega)]; exact hl))
      · intro j i hj hi hN
        intro σs hl
        have hqs := mSc2.ink hl.1 hq
        have hl2 := hl.2.1
        have hll := hlen2 j i
        have hb : j * ((A.1 p.toNat).1.toNat + 1) ≤ 11 * 17 := Nat.mul_le_mul (by omega) (by omega)
        have e1 : (zfold (fun (i : Nat) (l : List Int) => l ++ [97 + znear ((A.1 p.toNat).2.2 i (j : Nat)) 17]) (i + 1) (if 0 < j then (zfold (fun (j : Nat) (l : List Int) => aInkR (A.1 p.toNat) j (if 0 < j then l ++ [47] else l)) j []) ++ [47] else (zfold (fun (j : Nat) (l : List Int) => aInkR (A.1 p.toNat) j (if 0 < j then l ++ [47] else l)) j []))) = (zfold (fun (i : Nat) (l : List Int) => l ++ [97 + znear ((A.1 p.toNat).2.2 i (j : Nat)) 17]) i (if 0 < j then (zfold (fun (j : Nat) (l : List Int) => aInkR (A.1 p.toNat) j (if 0 < j then l ++ [47] else l)) j []) ++ [47] else (zfold (fun (j : Nat) (l : List Int) => aInkR (A.1 p.toNat) j (if 0 < j then l ++ [47] else l)) j []))) ++ [97 + znear ((A.1 p.toNat).2.2 i (j : Nat)) 17] := rfl
        rw [e1] at hN
        have hdd := hqs.d (x := i) (y := j) (by omega) (by omega)
        generalize (zfold (fun (i : Nat) (l : List Int) => l ++ [97 + znear ((A.1 p.toNat).2.2 i (j : Nat)) 17]) i (if 0 < j then (zfold (fun (j : Nat) (l : List Int) => aInkR (A.1 p.toNat) j (if 0 < j then l ++ [47] else l)) j []) ++ [47] else (zfold (fun (j : Nat) (l : List Int) => aInkR (A.1 p.toNat) j (if 0 < j then l ++ [47] else l)) j []))) = l at *
        refine zw_iload_n 63 rfl dX11_write_62 rfl ?_
        refine zw_aload_n 64 rfl dX11_write_63 rfl ?_
        refine zw_iload_n 65 rfl dX11_write_64 rfl ?_
        refine zw_cVi1 68 rfl dX11_write_65 kX11_write_170 (Nat.le_of_ble_eq_true rfl) (by first | assumption | exact zm_o0 | exact zm_o _ _ _ rfl) (m_wideP hqs) ?_
        refine zw_icmp_ge 113 71 rfl dX11_write_68 (by decide) (by omega) (by omega) (fun h_68 => ?_) (fun h_68 => ?_)
        · omega
        · refine zw_aload_n 72 rfl dX11_write_71 rfl ?_
          refine zw_getr 75 rfl dX11_write_72 fl_X11_79 (by first | assumption | exact zm_o0 | exact zm_o _ _ _ rfl) (by first | assumption | exact zm_f _ _ rfl) ?_
          refine zw_aload_n 76 rfl dX11_write_75 rfl ?_
          refine zw_geti 79 rfl dX11_write_76 fl_X11_350 (by first | assumption | exact zm_o0 | exact zm_o _ _ _ rfl) ?_
          rw [hl2]
          refine zw_bipush 81 rfl dX11_write_79 rfl ?_
          refine zw_aload_n 82 rfl dX11_write_81 rfl ?_
          refine zw_iload_n 83 rfl dX11_write_82 rfl ?_
          refine zw_iload_n 84 rfl dX11_write_83 rfl ?_
          refine zw_iload_n 85 rfl dX11_write_84 rfl ?_
          refine zw_cVi3 88 rfl dX11_write_85 kX11_write_182 (Nat.le_of_ble_eq_true rfl) (by first | assumption | exact zm_o0 | exact zm_o _ _ _ rfl) (m_dotP hqs (by omega) (by omega)) ?_
          refine zw_i2l 89 rfl dX11_write_88 (by omega) ?_
          refine zw_ldc2_w 92 rfl dX11_write_89 kX11_353 ?_
          refine zw_cSi2 95 rfl dX11_write_92 kX11_write_295 (Nat.le_of_ble_eq_true rfl) (m_nearest (by omega) (by omega)) ?_
          refine zw_iadd 96 rfl dX11_write_95 ?_
          refine zw_iast 97 rfl dX11_write_96 (by first | assumption | exact zm_o0 | exact zm_o _ _ _ rfl) (by omega) (by omega) ?_
          rw [Int.toNat_natCast]
          refine zw_aload_n 98 rfl dX11_write_97 rfl ?_
          refine zw_dup 99 rfl dX11_write_98 rfl ?_
          refine zw_geti 102 rfl dX11_write_99 fl_X11_350 (by first | assumption | exact zm_o0 | exact zm_o _ _ _ rfl) ?_
          rw [zu_a _ _ (by omega), hl2]
          refine zw_iconst 103 rfl dX11_write_102 ?_
          refine zw_iadd 104 rfl dX11_write_103 ?_
          refine zw_puti 107 rfl dX11_write_104 fp_X11_350 (by first | assumption | exact zm_o0 | exact zm_o _ _ _ rfl) ?_
          refine zw_iinc 110 rfl dX11_write_107 (Nat.le_of_ble_eq_true rfl) rfl rfl ?_
          refine zw_goto 62 dX11_write_110 (by decide) ?_
          exact hN _ hl.app
      · intro j hj hO
        intro σs hl
        have hqs := mSc2.ink hl.1 hq
        have hl2 := hl.2.1
        refine zw_iload_n 63 rfl dX11_write_62 rfl ?_
        refine zw_aload_n 64 rfl dX11_write_63 rfl ?_
        refine zw_iload_n 65 rfl dX11_write_64 rfl ?_
        refine zw_cVi1 68 rfl dX11_write_65 kX11_write_170 (Nat.le_of_ble_eq_true rfl) (by first | assumption | exact zm_o0 | exact zm_o _ _ _ rfl) (m_wideP hqs) ?_
        refine zw_icmp_ge 113 71 rfl dX11_write_68 (by decide) (by omega) (by omega) (fun h_68 => ?_) (fun h_68 => ?_)
        · refine zw_iinc 116 rfl dX11_write_113 (Nat.le_of_ble_eq_true rfl) rfl rfl ?_
          refine zw_goto 26 dX11_write_116 (by decide) ?_
          refine zw_drop 3 ?_
          exact hO σs hl
        · omega
    refine zw_aload_n 1 rfl dX11_write_0 rfl ?_
    refine zw_iconst 2 rfl dX11_write_1 ?_
    refine zw_puti 5 rfl dX11_write_2 fp_X11_85 (by first | assumption | exact zm_o0 | exact zm_o _ _ _ rfl) ?_
    refine zw_aload_n 6 rfl dX11_write_5 rfl ?_
    refine zw_iload_n 7 rfl dX11_write_6 rfl ?_
    refine zw_cVi1 10 rfl dX11_write_7 kX11_write_173 (Nat.le_of_ble_eq_true rfl) (by first | assumption | exact zm_o0 | exact zm_o _ _ _ rfl) (m_isPicture hP hp) ?_
    refine zw_if_neB 19 13 rfl dX11_write_10 (by decide) (fun h_10 => ?_) (fun h_10 => ?_)
    · refine zw_aload_n 20 rfl dX11_write_19 rfl ?_
      refine zw_iconst 21 rfl dX11_write_20 ?_
      refine zw_puti 24 rfl dX11_write_21 fp_X11_350 (by first | assumption | exact zm_o0 | exact zm_o _ _ _ rfl) ?_
      refine zw_iconst 25 rfl dX11_write_24 ?_
      refine zw_istore_n 26 rfl dX11_write_25 (Nat.le_of_ble_eq_true rfl) rfl ?_
      refine key _ ⟨fun b j b1 b2 => zu_ne _ _ b2, zu_eq _ _ _ _, fun i hi => absurd hi (by simp [zfold])⟩
    · exact absurd hc h_10
  refine zw_aload_n 1 rfl dX11_write_0 rfl ?_
  refine zw_iconst 2 rfl dX11_write_1 ?_
  refine zw_puti 5 rfl dX11_write_2 fp_X11_85 (by first | assumption | exact zm_o0 | exact zm_o _ _ _ rfl) ?_
  refine zw_aload_n 6 rfl dX11_write_5 rfl ?_
  refine zw_iload_n 7 rfl dX11_write_6 rfl ?_
  refine zw_cVi1 10 rfl dX11_write_7 kX11_write_173 (Nat.le_of_ble_eq_true rfl) (by first | assumption | exact zm_o0 | exact zm_o _ _ _ rfl) (m_isPicture hP hp) ?_
  refine zw_if_neB 19 13 rfl dX11_write_10 (by decide) (fun h_10 => ?_) (fun h_10 => ?_)
  · exact absurd h_10 hc
  · refine zw_aload_n 14 rfl dX11_write_13 rfl ?_
    refine zw_iconst 15 rfl dX11_write_14 ?_
    refine zw_cVi1 18 rfl dX11_write_15 kX11_write_147 (Nat.le_of_ble_eq_true rfl) (by first | assumption | exact zm_o0 | exact zm_o _ _ _ rfl) m_refused ?_
    exact zw_iret (st := []) dX11_write_18 rfl (mRef h mThrown mScT.rf (by simp only [if_neg h_10, if_true, if_false]) (by omega))
