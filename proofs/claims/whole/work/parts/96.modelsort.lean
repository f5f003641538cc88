/-! ===== the sorted row ===== -/
/-- the row at C + a, as many as field k says, is sorted; cn of them, ct v of them are v -/
def mSI (C a k : Nat) (σr : zSt) (M cn : Int) (ct : Int → Int) (σs : zSt) : Prop := (∀ b j, b ≠ C + a → ¬ (b = C ∧ j = k) → σs b j = σr b j) ∧ ∃ n : Nat, cn = n ∧ σs C k = n ∧ zsrt (σs (C + a)) n ∧ (∀ j, j < n → 0 ≤ σs (C + a) j ∧ σs (C + a) j ≤ M) ∧ ∀ v, zct (σs (C + a)) n v = ct v
theorem mSI.start {C a k : Nat} {σ : zSt} {M : Int} (ha : 0 < a) : mSI C a k σ M 0 (fun _ => 0) (zu σ C k 0) := ⟨fun b j _ h => zu_ne _ _ h, 0, rfl, zu_eq _ _ _ _, fun i j _ h => absurd h (by omega), fun j h => absurd h (by omega), fun v => rfl⟩
theorem mSI.ins {C a k n e : Nat} {σr σ σs : zSt} {M v : Int} {ct : Int → Int} (ha : 0 < a) (h : mSI C a k σr M n ct σ) (hk : zsk (σ (C + a)) (σs (C + a)) n e v) (hf : ∀ b j, b ≠ C + a → σs b j = σ b j) (hv : 0 ≤ v ∧ v ≤ M) (he : e = 0 ∨ σ (C + a) (e - 1) ≤ v) : mSI C a k σr M (n + 1) (fun u => ct u + if v = u then 1 else 0) (zu (zu σs (C + a) e v) C k (n + 1)) := by
  obtain ⟨h1, n', h2, h3, h4, h5, h6⟩ := h
  have hn : n' = n := by omega
  subst hn
  have e1 : zu (zu σs (C + a) e v) C k ((n' : Int) + 1) (C + a) = fun j => if j = e then v else σs (C + a) j := by rw [zu_row _ _ (by omega), zu_row2]
  refine ⟨fun b j b1 b2 => by rw [zu_ne _ _ b2, zu_a _ _ b1, hf b j b1]; exact h1 b j b1 b2, n' + 1, rfl, zu_eq _ _ _ _, ?_, fun j hj => ?_, fun u => ?_⟩
  · rw [e1]; exact zsk_end hk h4 he
  · rw [e1]
    show 0 ≤ (if j = e then v else σs (C + a) j) ∧ (if j = e then v else σs (C + a) j) ≤ M
    by_cases q : j = e
    · rw [if_pos q]; exact hv
    · rw [if_neg q]
      by_cases q2 : j < e
      · rw [hk.2.1 j q2]; exact h5 j (by have := hk.1; omega)
      · rw [(hk.2.2 j (by omega) (by omega)).1]; exact h5 (j - 1) (by omega)
  · rw [e1, zsk_ct hk u, h6]
theorem zsk_0 (f : Nat → Int) (n : Nat) (v : Int) : zsk f f n n v := ⟨Nat.le_refl _, fun _ _ => rfl, fun j h1 h2 => absurd h1 (by omega)⟩
theorem m_sorts {G : zG} {C : Nat} {σ τ : zSt} {σr : zSt} {cn v : Int} {ct : Int → Int} (h : mSI C 19 40 σr 255 cn ct σ) (hn : cn < 192) (hv : 0 ≤ v ∧ v ≤ 255) : zC G M_X11_sorts [.ref C, vi v] (zmS C, σ, τ) (fun r w' => r = none ∧ ∃ σ' : zSt, w' = (zmS C, σ', τ) ∧ mSI C 19 40 σr 255 (cn + 1) (fun u => ct u + if v = u then 1 else 0) σ') := by
  have h0 := h
  obtain ⟨h1, n, rfl, h3, h4, h5, h6⟩ := h
  refine zC_of 1 rfl (Nat.le_of_ble_eq_true rfl) ?_
  have fin : ∀ (e : Nat) (σs : zSt), zsk (σ (C + 19)) (σs (C + 19)) n e v → (∀ b j, b ≠ C + 19 → σs b j = σ b j) → (e = 0 ∨ σ (C + 19) (e - 1) ≤ v) → zW G M_X11_sorts (fun r w' => r = none ∧ ∃ σ' : zSt, w' = (zmS C, σ', τ) ∧ mSI C 19 40 σr 255 ((n : Int) + 1) (fun u => ct u + if v = u then 1 else 0) σ') 41 [some (.ref C), some (vi v), some (vi e)] [] (zmS C, σs, τ) := by
    intro e σs hk hf he
    have hke := hk.1
    refine zw_aload_n 42 rfl dX11_sorts_41 rfl ?_
    refine zw_getr 45 rfl dX11_sorts_42 fl_X11_70 (by first | assumption | exact zm_o0 | exact zm_o _ _ _ rfl) (by first | assumption | exact zm_f _ _ rfl) ?_
    refine zw_iload_n 46 rfl dX11_sorts_45 rfl ?_
    refine zw_iload_n 47 rfl dX11_sorts_46 rfl ?_
    refine zw_iast 48 rfl dX11_sorts_47 (by first | assumption | exact zm_o0 | exact zm_o _ _ _ rfl) (by omega) (by omega) ?_
    rw [Int.toNat_natCast]
    refine zw_aload_n 49 rfl dX11_sorts_48 rfl ?_
    refine zw_dup 50 rfl dX11_sorts_49 rfl ?_
    refine zw_geti 53 rfl dX11_sorts_50 fl_X11_310 (by first | assumption | exact zm_o0 | exact zm_o _ _ _ rfl) ?_
    rw [zu_a _ _ (by omega), hf _ _ (by omega), h3]
    refine zw_iconst 54 rfl dX11_sorts_53 ?_
    refine zw_iadd 55 rfl dX11_sorts_54 ?_
    refine zw_puti 58 rfl dX11_sorts_55 fp_X11_310 (by first | assumption | exact zm_o0 | exact zm_o _ _ _ rfl) ?_
    exact zw_vret (st := []) dX11_sorts_58 rfl ⟨rfl, _, rfl, h0.ins (by omega) hk hf hv he⟩
  have loop : ∀ (e : Nat) (σs : zSt), zsk (σ (C + 19)) (σs (C + 19)) n e v → (∀ b j, b ≠ C + 19 → σs b j = σ b j) → zW G M_X11_sorts (fun r w' => r = none ∧ ∃ σ' : zSt, w' = (zmS C, σ', τ) ∧ mSI C 19 40 σr 255 ((n : Int) + 1) (fun u => ct u + if v = u then 1 else 0) σ') 5 [some (.ref C), some (vi v), some (vi e)] [] (zmS C, σs, τ) := by
    intro e
    induction e with
    | zero =>
      intro σs hk hf
      refine zw_iload_n 6 rfl dX11_sorts_5 rfl ?_
      refine zw_if_le 41 9 rfl dX11_sorts_6 (by decide) (by omega) (fun h_6 => ?_) (fun h_6 => ?_)
      · exact fin 0 σs hk hf (Or.inl rfl)
      · exact absurd h_6 (by decide)
    | succ e ih =>
      intro σs hk hf
      have hke := hk.1
      have e1 := hk.2.1 e (by omega)
      have e2 := h5 e (by omega)
      have ix : (((e + 1 : Nat) : Int) - 1).toNat = e := by omega
      refine zw_iload_n 6 rfl dX11_sorts_5 rfl ?_
      refine zw_if_le 41 9 rfl dX11_sorts_6 (by decide) (by omega) (fun h_6 => ?_) (fun h_6 => ?_)
      · first
        | (exfalso; omega)
        | (rw [ix, e1] at h_18
           exact fin (e + 1) σs hk hf (Or.inr h_18))
      · refine zw_aload_n 10 rfl dX11_sorts_9 rfl ?_
        refine zw_getr 13 rfl dX11_sorts_10 fl_X11_70 (by first | assumption | exact zm_o0 | exact zm_o _ _ _ rfl) (by first | assumption | exact zm_f _ _ rfl) ?_
        refine zw_iload_n 14 rfl dX11_sorts_13 rfl ?_
        refine zw_iconst 15 rfl dX11_sorts_14 ?_
        refine zw_isub 16 rfl dX11_sorts_15 ?_
        refine zw_iald 17 rfl dX11_sorts_16 (by first | assumption | exact zm_o0 | exact zm_o _ _ _ rfl) (by omega) (by omega) ?_
        refine zw_iload_n 18 rfl dX11_sorts_17 rfl ?_
        refine zw_icmp_le 41 21 rfl dX11_sorts_18 (by decide) (by rw [ix, e1]; omega) (by omega) (fun h_18 => ?_) (fun h_18 => ?_)
        · first
          | (exfalso; omega)
          | (rw [ix, e1] at h_18
             exact fin (e + 1) σs hk hf (Or.inr h_18))
        · refine zw_aload_n 22 rfl dX11_sorts_21 rfl ?_
          refine zw_getr 25 rfl dX11_sorts_22 fl_X11_70 (by first | assumption | exact zm_o0 | exact zm_o _ _ _ rfl) (by first | assumption | exact zm_f _ _ rfl) ?_
          refine zw_iload_n 26 rfl dX11_sorts_25 rfl ?_
          refine zw_aload_n 27 rfl dX11_sorts_26 rfl ?_
          refine zw_getr 30 rfl dX11_sorts_27 fl_X11_70 (by first | assumption | exact zm_o0 | exact zm_o _ _ _ rfl) (by first | assumption | exact zm_f _ _ rfl) ?_
          refine zw_iload_n 31 rfl dX11_sorts_30 rfl ?_
          refine zw_iconst 32 rfl dX11_sorts_31 ?_
          refine zw_isub 33 rfl dX11_sorts_32 ?_
          refine zw_iald 34 rfl dX11_sorts_33 (by first | assumption | exact zm_o0 | exact zm_o _ _ _ rfl) (by omega) (by omega) ?_
          rw [ix] at h_18 ⊢
          refine zw_iast 35 rfl dX11_sorts_34 (by first | assumption | exact zm_o0 | exact zm_o _ _ _ rfl) (by omega) (by omega) ?_
          refine zw_iinc 38 rfl dX11_sorts_35 (Nat.le_of_ble_eq_true rfl) rfl rfl ?_
          refine zw_goto 5 dX11_sorts_38 (by decide) ?_
          rw [show ((e + 1 : Nat) : Int) + -1 = (e : Int) by omega, Int.toNat_natCast]
          refine ih _ ?_ (fun b j hb => by rw [zu_a _ _ hb]; exact hf b j hb)
          rw [zu_row2]
          exact zsk_step hk (by omega)
  refine zw_aload_n 1 rfl dX11_sorts_0 rfl ?_
  refine zw_geti 4 rfl dX11_sorts_1 fl_X11_310 (by first | assumption | exact zm_o0 | exact zm_o _ _ _ rfl) ?_
  rw [h3]
  refine zw_istore_n 5 rfl dX11_sorts_4 (Nat.le_of_ble_eq_true rfl) rfl ?_
  exact loop n σ (zsk_0 _ _ _) (fun _ _ _ => rfl)
/-! ===== median, ranked ===== -/
theorem zpt_cn {w : Int} {F : Int → Int → Int → Int} (hF : ∀ x y m, F x y m ≤ m + 1) (j i : Nat) : zpt w F 0 j i ≤ ((j * w.toNat + i : Nat) : Int) := by
  unfold zpt
  have h1 : zfold (fun (j : Nat) => zfold (fun (i : Nat) => F i j) w.toNat) j 0 ≤ ((j * w.toNat : Nat) : Int) := zfold_ind (fun (j : Nat) (m : Int) => m ≤ ((j * w.toNat : Nat) : Int)) j (by simp) (fun a b ha hb => by
    have := zfold_ind (f := fun (i : Nat) => F i a) (fun (i : Nat) (m : Int) => m ≤ ((a * w.toNat + i : Nat) : Int)) w.toNat (by simpa using hb) (fun c d hc hd => by have := hF c a d; omega)
    rw [Nat.succ_mul]; exact this)
  exact zfold_ind (f := fun (i : Nat) => F i j) (fun (i : Nat) (m : Int) => m ≤ ((j * w.toNat + i : Nat) : Int)) i (by simpa using h1) (fun c d hc hd => by have := hF c j d; omega)
theorem m_middleOf {G : zG} {C : Nat} {σ τ : zSt} {P : Nat → zPc} {of x y n : Int} (hP : mrP (σ (C + 9)) 0 P) (ht : aPl of ∧ 0 < (P of.toNat).1) (hx : 0 ≤ x ∧ x < (P of.toNat).1) (hy : 0 ≤ y ∧ y < (P of.toNat).2.1) (hn : 0 ≤ n ∧ n ≤ 4) : zC G M_X11_middleOf [.ref C, vi of, vi x, vi y, vi n] (zmS C, σ, τ) (fun r w' => r = some (vi (zrk (aWM (P of.toNat) (x - n) (y - n) (2 * n + 1) (2 * n + 1)) 256 0 ((aWC (P of.toNat) (x - n) (y - n) (2 * n + 1) (2 * n + 1) - 1) / 2))) ∧ ∃ σ' : zSt, w' = (zmS C, σ', τ) ∧ ∀ b j, b ≠ C + 19 → ¬ (b = C ∧ j = 40) → σ' b j = σ b j) := by
  have hq := hP.pc ht
  have hw := hq.wh
  have r2 := aWC_r (x := x - n) (y := y - n) (n := 2 * n + 1) hw hx hy (by omega) (by omega)
  refine zC_of 2 rfl (Nat.le_of_ble_eq_true rfl) ?_
  have hM : ∀ c : Nat, aWM (P of.toNat) (x - n) (y - n) (2 * n + 1) (2 * n + 1) c = zpt (2 * n + 1) (fun a b m => if (0 ≤ x - n + a ∧ x - n + a < (P of.toNat).1) ∧ 0 ≤ y - n + b ∧ y - n + b < (P of.toNat).2.1 then (m + if (P of.toNat).2.2 (x - n + a) (y - n + b) = c then 1 else 0) else m) 0 (2 * n + 1).toNat 0 := fun c => by
    unfold aWM aWin
    rw [← zwin_clip _ (by omega) (by omega), zpt_e]
  generalize hT : aWC (P of.toNat) (x - n) (y - n) (2 * n + 1) (2 * n + 1) = T at *
  unfold aWC aWin at hT
  rw [← zwin_clip _ (by omega) (by omega), zpt_e] at hT
  generalize hK : (fun (a b m : Int) => if (0 ≤ x - n + a ∧ x - n + a < (P of.toNat).1) ∧ 0 ≤ y - n + b ∧ y - n + b < (P of.toNat).2.1 then m + 1 else m) = K at hT
  have hK' : ∀ a b m, K a b m = if (0 ≤ x - n + a ∧ x - n + a < (P of.toNat).1) ∧ 0 ≤ y - n + b ∧ y - n + b < (P of.toNat).2.1 then m + 1 else m := fun a b m => by rw [← hK]
  generalize hL : (fun (c : Int) (a b m : Int) => if (0 ≤ x - n + a ∧ x - n + a < (P of.toNat).1) ∧ 0 ≤ y - n + b ∧ y - n + b < (P of.toNat).2.1 then (m + if (P of.toNat).2.2 (x - n + a) (y - n + b) = c then 1 else 0) else m) = L
  have hL' : ∀ c a b m, L c a b m = if (0 ≤ x - n + a ∧ x - n + a < (P of.toNat).1) ∧ 0 ≤ y - n + b ∧ y - n + b < (P of.toNat).2.1 then (m + if (P of.toNat).2.2 (x - n + a) (y - n + b) = c then 1 else 0) else m := fun c a b m => by rw [← hL]
  have hM' : ∀ c : Nat, aWM (P of.toNat) (x - n) (y - n) (2 * n + 1) (2 * n + 1) c = zpt (2 * n + 1) (L c) 0 (2 * n + 1).toNat 0 := fun c => by rw [hM, ← hL]
  have hcn : ∀ j i : Nat, j < (2 * n + 1).toNat → i < (2 * n + 1).toNat → zpt (2 * n + 1) K 0 j i < 192 := fun j i hj hi => by
    have h1 := zpt_cn (w := 2 * n + 1) (F := K) (fun a b m => by rw [hK']; split <;> omega) j i
    have h2 : j * (2 * n + 1).toNat ≤ 8 * 9 := Nat.mul_le_mul (by omega) (by omega)
    omega
  have key : ∀ σs : zSt, mSI C 19 40 σ 255 (zpt (2 * n + 1) K 0 0 0) (fun c => zpt (2 * n + 1) (L c) 0 0 0) σs → zW G M_X11_middleOf (fun r w' => r = some (vi (zrk (aWM (P of.toNat) (x - n) (y - n) (2 * n + 1) (2 * n + 1)) 256 0 ((T - 1) / 2))) ∧ ∃ σ' : zSt, w' = (zmS C, σ', τ) ∧ ∀ b j, b ≠ C + 19 → ¬ (b = C ∧ j = 40) → σ' b j = σ b j) 11 [some (.ref C), some (vi of), some (vi x), some (vi y), some (vi n), some (vi (y - n + (0 : Nat))), none] [] (zmS C, σs, τ) := by
    refine zrows (w := (2 * n + 1).toNat) (h := (2 * n + 1).toNat) (O := fun j => ∀ σs : zSt, mSI C 19 40 σ 255 (zpt (2 * n + 1) K 0 j 0) (fun c => zpt (2 * n + 1) (L c) 0 j 0) σs → zW G M_X11_middleOf (fun r w' => r = some (vi (zrk (aWM (P of.toNat) (x - n) (y - n) (2 * n + 1) (2 * n + 1)) 256 0 ((T - 1) / 2))) ∧ ∃ σ' : zSt, w' = (zmS C, σ', τ) ∧ ∀ b j, b ≠ C + 19 → ¬ (b = C ∧ j = 40) → σ' b j = σ b j) 11 [some (.ref C), some (vi of), some (vi x), some (vi y), some (vi n), some (vi (y - n + j)), none] [] (zmS C, σs, τ)) (N := fun j i => ∀ σs : zSt, mSI C 19 40 σ 255 (zpt (2 * n + 1) K 0 j i) (fun c => zpt (2 * n + 1) (L c) 0 j i) σs → zW G M_X11_middleOf (fun r w' => r = some (vi (zrk (aWM (P of.toNat) (x - n) (y - n) (2 * n + 1) (2 * n + 1)) 256 0 ((T - 1) / 2))) ∧ ∃ σ' : zSt, w' = (zmS C, σ', τ) ∧ ∀ b j, b ≠ C + 19 → ¬ (b = C ∧ j = 40) → σ' b j = σ b j) 26 [some (.ref C), some (vi of), some (vi x), some (vi y), some (vi n), some (vi (y - n + j)), some (vi (x - n + i))] [] (zmS C, σs, τ)) ?_ ?_ ?_ ?_
    · intro σs hl
      obtain ⟨f1, m, f2, f3, f4, f5, f6⟩ := hl
      rw [hT] at f2
      refine zw_iload 13 rfl dX11_middleOf_11 rfl ?_
      refine zw_iload_n 14 rfl dX11_middleOf_13 rfl ?_
      refine zw_iload 16 rfl dX11_middleOf_14 rfl ?_
      refine zw_iadd 17 rfl dX11_middleOf_16 ?_
      refine zw_icmp_gt 72 20 rfl dX11_middleOf_17 (by decide) (by omega) (by omega) (fun h_17 => ?_) (fun h_17 => ?_)
      · refine zw_aload_n 73 rfl dX11_middleOf_72 rfl ?_
        refine zw_getr 76 rfl dX11_middleOf_73 fl_X11_70 (by first | assumption | exact zm_o0 | exact zm_o _ _ _ rfl) (by first | assumption | exact zm_f _ _ rfl) ?_
        refine zw_aload_n 77 rfl dX11_middleOf_76 rfl ?_
        refine zw_geti 80 rfl dX11_middleOf_77 fl_X11_310 (by first | assumption | exact zm_o0 | exact zm_o _ _ _ rfl) ?_
        rw [f3]
        refine zw_iconst 81 rfl dX11_middleOf_80 ?_
        refine zw_isub 82 rfl dX11_middleOf_81 ?_
        refine zw_iconst 83 rfl dX11_middleOf_82 ?_
        refine zw_idiv 84 rfl dX11_middleOf_83 (by omega) (by omega) ?_
        refine zw_iald 85 rfl dX11_middleOf_84 (by first | assumption | exact zm_o0 | exact zm_o _ _ _ rfl) (by omega) (by omega) ?_
        refine zw_iret (st := []) dX11_middleOf_85 rfl ⟨?_, _, rfl, f1⟩
        have e := zsrt_k (M := 256) (k := (((m : Int) - 1) / 2).toNat) f4 (by omega) (fun j hj => by have := f5 j hj; omega)
        rw [e, f2, show (((((m : Int) - 1) / 2).toNat : Nat) : Int) = ((m : Int) - 1) / 2 by omega, zrk_c (t' := aWM (P of.toNat) (x - n) (y - n) (2 * n + 1) (2 * n + 1)) 256 0 _ (fun c _ _ => by rw [f6, hM'])]
      · omega
    · intro j hj hN
      intro σs hl
      refine zw_iload 13 rfl dX11_middleOf_11 rfl ?_
      refine zw_iload_n 14 rfl dX11_middleOf_13 rfl ?_
      refine zw_iload 16 rfl dX11_middleOf_14 rfl ?_
      refine zw_iadd 17 rfl dX11_middleOf_16 ?_
      refine zw_icmp_gt 72 20 rfl dX11_middleOf_17 (by decide) (by omega) (by omega) (fun h_17 => ?_) (fun h_17 => ?_)
      · omega
      · refine zw_iload_n 21 rfl dX11_middleOf_20 rfl ?_
        refine zw_iload 23 rfl dX11_middleOf_21 rfl ?_
        refine zw_isub 24 rfl dX11_middleOf_23 ?_
        refine zw_istore 26 rfl dX11_middleOf_24 (Nat.le_of_ble_eq_true rfl) rfl ?_
        rw [show x - n + ((0 : Nat) : Int) = x - n by omega] at hN
        exact hN σs hl
    · intro j i hj hi hN
      intro σs hl
      have hP2 : mrP (σs (C + 9)) 0 P := hP.mv (fun j _ => hl.1 _ _ (by omega) (by omega))
      have hq2 := hP2.pc ht
      refine zw_iload 28 rfl dX11_middleOf_26 rfl ?_
      refine zw_iload_n 29 rfl dX11_middleOf_28 rfl ?_
      refine zw_iload 31 rfl dX11_middleOf_29 rfl ?_
      refine zw_iadd 32 rfl dX11_middleOf_31 ?_
      refine zw_icmp_gt 66 35 rfl dX11_middleOf_32 (by decide) (by omega) (by omega) (fun h_32 => ?_) (fun h_32 => ?_)
      · omega
      · refine zw_aload_n 36 rfl dX11_middleOf_35 rfl ?_
        refine zw_iload_n 37 rfl dX11_middleOf_36 rfl ?_
        refine zw_iload 39 rfl dX11_middleOf_37 rfl ?_
        refine zw_iload 41 rfl dX11_middleOf_39 rfl ?_
        refine zw_cVi3 44 rfl dX11_middleOf_41 kX11_middleOf_190 (Nat.le_of_ble_eq_true rfl) (by first | assumption | exact zm_o0 | exact zm_o _ _ _ rfl) (m_isDot hP2 (by omega) (by omega) (by omega)) ?_
        refine zw_if_eqB 60 47 rfl dX11_middleOf_44 (by decide) (fun h_44 => ?_) (fun h_44 => ?_)
        · refine zw_iinc 63 rfl dX11_middleOf_60 (Nat.le_of_ble_eq_true rfl) rfl rfl ?_
          refine zw_goto 26 dX11_middleOf_63 (by decide) ?_
          first
          | (have hN := hN σ3 (by simp only [zpt_s, hL', hK', if_pos h_44.2]; exact hl3)
             rw [show x - n + ((i + 1 : Nat) : Int) = x - n + i + 1 by omega] at hN
             exact hN)
          | (have hN := hN σs (by simp only [zpt_s, hL', hK', if_neg (show ¬ ((0 ≤ x - n + (i : Int) ∧ x - n + (i : Int) < (P of.toNat).1) ∧ 0 ≤ y - n + (j : Int) ∧ y - n + (j : Int) < (P of.toNat).2.1) from fun q => h_44 ⟨ht, q⟩)]; exact hl)
             rw [show x - n + ((i + 1 : Nat) : Int) = x - n + i + 1 by omega] at hN
             exact hN)
        · refine zw_aload_n 48 rfl dX11_middleOf_47 rfl ?_
          refine zw_aload_n 49 rfl dX11_middleOf_48 rfl ?_
          refine zw_iload_n 50 rfl dX11_middleOf_49 rfl ?_
          refine zw_iload 52 rfl dX11_middleOf_50 rfl ?_
          refine zw_iload 54 rfl dX11_middleOf_52 rfl ?_
          refine zw_cVi3 57 rfl dX11_middleOf_54 kX11_middleOf_182 (Nat.le_of_ble_eq_true rfl) (by first | assumption | exact zm_o0 | exact zm_o _ _ _ rfl) (m_dotP hq2 h_44.2.1 h_44.2.2) ?_
          refine zw_cVr1 60 rfl dX11_middleOf_57 kX11_middleOf_313 (Nat.le_of_ble_eq_true rfl) (by first | assumption | exact zm_o0 | exact zm_o _ _ _ rfl) (m_sorts hl (hcn j i hj hi) (hq2.d h_44.2.1 h_44.2.2)) ?_
          rintro _ _ ⟨rfl, σ3, rfl, hl3⟩
          refine zw_iinc 63 rfl dX11_middleOf_60 (Nat.le_of_ble_eq_true rfl) rfl rfl ?_
          refine zw_goto 26 dX11_middleOf_63 (by decide) ?_
          first
          | (have hN := hN σ3 (by simp only [zpt_s, hL', hK', if_pos h_44.2]; exact hl3)
             rw [show x - n + ((i + 1 : Nat) : Int) = x - n + i + 1 by omega] at hN
             exact hN)
          | (have hN := hN σs (by simp only [zpt_s, hL', hK', if_neg (show ¬ ((0 ≤ x - n + (i : Int) ∧ x - n + (i : Int) < (P of.toNat).1) ∧ 0 ≤ y - n + (j : Int) ∧ y - n + (j : Int) < (P of.toNat).2.1) from fun q => h_44 ⟨ht, q⟩)]; exact hl)
             rw [show x - n + ((i + 1 : Nat) : Int) = x - n + i + 1 by omega] at hN
             exact hN)
    · intro j hj hO
      intro σs hl
      refine zw_iload 28 rfl dX11_middleOf_26 rfl ?_
      refine zw_iload_n 29 rfl dX11_middleOf_28 rfl ?_
      refine zw_iload 31 rfl dX11_middleOf_29 rfl ?_
      refine zw_iadd 32 rfl dX11_middleOf_31 ?_
      refine zw_icmp_gt 66 35 rfl dX11_middleOf_32 (by decide) (by omega) (by omega) (fun h_32 => ?_) (fun h_32 => ?_)
      · refine zw_iinc 69 rfl dX11_middleOf_66 (Nat.le_of_ble_eq_true rfl) rfl rfl ?_
        refine zw_goto 11 dX11_middleOf_69 (by decide) ?_
        refine zw_drop 6 ?_
        have hO := hO σs hl
        rw [show y - n + ((j + 1 : Nat) : Int) = y - n + j + 1 by omega] at hO
        exact hO
      · omega
  refine zw_aload_n 1 rfl dX11_middleOf_0 rfl ?_
  refine zw_iconst 2 rfl dX11_middleOf_1 ?_
  refine zw_puti 5 rfl dX11_middleOf_2 fp_X11_310 (by first | assumption | exact zm_o0 | exact zm_o _ _ _ rfl) ?_
  refine zw_iload_n 6 rfl dX11_middleOf_5 rfl ?_
  refine zw_iload 8 rfl dX11_middleOf_6 rfl ?_
  refine zw_isub 9 rfl dX11_middleOf_8 ?_
  refine zw_istore 11 rfl dX11_middleOf_9 (Nat.le_of_ble_eq_true rfl) rfl ?_
  rw [show y - n + ((0 : Nat) : Int) = y - n by omega] at key
  exact key _ (mSI.start (by omega))
theorem mNw.fr {C j i : Nat} {σr σs σ' : zSt} {W w h : Int} {V : Int → Int → Int} {pos : Int → Int → Nat} (hl : mNw C σr W w h V pos j i σs) (hf : mSc2 C σs σ') (h9 : ∀ k, σ' (C + 9) k = σs (C + 9) k) : mNw C σr W w h V pos j i σ' := ⟨hl.1.tr hf, (h9 _).trans hl.2.1, (h9 _).trans hl.2.2.1, fun x y hx hy => (h9 _).trans (hl.2.2.2 x y hx hy)⟩
theorem mSc2.srt {C : Nat} {σ σ' : zSt} (h : ∀ b j, b ≠ C + 19 → ¬ (b = C ∧ j = 40) → σ' b j = σ b j) : mSc2 C σ σ' := fun b j hk => h b j (by unfold mKey2 mKey at hk; omega) (by unfold mKey2 mKey at hk; omega)
theorem aMed_r {p : zPc} {x y n : Int} (hd : aDots p) (hw : (1 ≤ p.1 ∧ p.1 ≤ 16) ∧ 1 ≤ p.2.1 ∧ p.2.1 ≤ 12) (hx : 0 ≤ x ∧ x < p.1) (hy : 0 ≤ y ∧ y < p.2.1) (hn : 0 ≤ n ∧ n ≤ 4) : 0 ≤ (aMed p n).2.2 x y ∧ (aMed p n).2.2 x y ≤ 255 := by
  show 0 ≤ zrk (aWM p (x - n) (y - n) (2 * n + 1) (2 * n + 1)) 256 0 ((aWC p (x - n) (y - n) (2 * n + 1) (2 * n + 1) - 1) / 2) ∧ zrk (aWM p (x - n) (y - n) (2 * n + 1) (2 * n + 1)) 256 0 ((aWC p (x - n) (y - n) (2 * n + 1) (2 * n + 1) - 1) / 2) ≤ 255
  have r2 := aWC_r (x := x - n) (y := y - n) (n := 2 * n + 1) hw hx hy (by omega) (by omega)
  obtain ⟨⟨t1, t2, t3⟩, t4, t5⟩ := aTal_ok (σ := fun _ _ => 0) (tt := 0) (x := x - n) (y := y - n) (u := 2 * n + 1) (v := 2 * n + 1) hd
  have e : zsumN (aWM p (x - n) (y - n) (2 * n + 1) (2 * n + 1)) 0 256 = aWC p (x - n) (y - n) (2 * n + 1) (2 * n + 1) := by
    rw [← t1, ← t5]
    unfold zsumN
    refine zfold_cong _ _ (fun i b hi => ?_)
    rw [Nat.zero_add, t3 i hi]
  have := zrk_r (t := aWM p (x - n) (y - n) (2 * n + 1) (2 * n + 1)) 256 0 ((aWC p (x - n) (y - n) (2 * n + 1) (2 * n + 1) - 1) / 2) (by omega) (by rw [e]; omega)
  omega
theorem Y_median {G : zG} {C : Nat} {σ τ : zSt} {A : zA} {to of n : Int} (h : zmR C σ τ A) (hto : -2147483648 ≤ to ∧ to ≤ 2147483647) (hof : -2147483648 ≤ of ∧ of ≤ 2147483647) (hn : -2147483648 ≤ n ∧ n ≤ 2147483647) : zC G M_X11_median [.ref C, vi to, vi of, vi n] (zmS C, σ, τ) (mQ C (sp_median A to of n)) := by
  have hP := (mThrown (v := 0)).P h.p
  refine zC_of 2 rfl (Nat.le_of_ble_eq_true rfl) ?_
  by_cases hc : aPl to ∧ aTold A of ∧ 0 ≤ n ∧ n ≤ 4
  · obtain ⟨hc1, hc2, hc3⟩ := hc
    have hq := h.p.pc hc2
    have hq1 := hP.pc hc2
    have hw := hq.wh
    have key : ∀ σs : zSt, mNw C σ ((A.1 of.toNat).1) ((A.1 of.toNat).1) ((A.1 of.toNat).2.1) ((aMed (A.1 of.toNat) n).2.2) mAt 0 0 σs → zW G M_X11_median (mQ C (sp_median A to of n)) 58 [some (.ref C), some (vi to), some (vi of), some (vi n), some (vi (0 : Nat)), none] [] (zmS C, σs, τ) := by
      refine zrows (w := ((A.1 of.toNat).1).toNat) (h := ((A.1 of.toNat).2.1).toNat) (O := fun j => ∀ σs : zSt, mNw C σ ((A.1 of.toNat).1) ((A.1 of.toNat).1) ((A.1 of.toNat).2.1) ((aMed (A.1 of.toNat) n).2.2) mAt j 0 σs → zW G M_X11_median (mQ C (sp_median A to of n)) 58 [some (.ref C), some (vi to), some (vi of), some (vi n), some (vi j), none] [] (zmS C, σs, τ)) (N := fun j i => ∀ σs : zSt, mNw C σ ((A.1 of.toNat).1) ((A.1 of.toNat).1) ((A.1 of.toNat).2.1) ((aMed (A.1 of.toNat) n).2.2) mAt j i σs → zW G M_X11_median (mQ C (sp_median A to of n)) 71 [some (.ref C), some (vi to), some (vi of), some (vi n), some (vi j), some (vi i)] [] (zmS C, σs, τ)) ?_ ?_ ?_ ?_
      · intro σs hl
        have hpic := hl.pic (by omega) (by omega) (by omega) (fun x y hx hy => aMed_r hq.dots hw hx hy hc3)
        refine zw_iload 60 rfl dX11_median_58 rfl ?_
        refine zw_aload_n 61 rfl dX11_median_60 rfl ?_
        refine zw_iload_n 62 rfl dX11_median_61 rfl ?_
        refine zw_cVi1 65 rfl dX11_median_62 kX11_median_176 (Nat.le_of_ble_eq_true rfl) (by first | assumption | exact zm_o0 | exact zm_o _ _ _ rfl) (m_highP (hq.s (by omega) hl.1)) ?_
        refine zw_icmp_ge 113 68 rfl dX11_median_65 (by decide) (by omega) (by omega) (fun h_65 => ?_) (fun h_65 => ?_)
        · refine zw_aload_n 114 rfl dX11_median_113 rfl ?_
          refine zw_iload_n 115 rfl dX11_median_114 rfl ?_
          refine zw_iload_n 116 rfl dX11_median_115 rfl ?_
          refine zw_cVr2 119 rfl dX11_median_116 kX11_median_322 (Nat.le_of_ble_eq_true rfl) (by first | assumption | exact zm_o0 | exact zm_o _ _ _ rfl) (m_ends (hl.1.s.P h.p) (hl.1.s.H h.hs) hpic (by show 0 < (A.1 of.toNat).1; omega) hc1 (hq.s (by omega) hl.1) rfl rfl) ?_
          rintro _ _ ⟨rfl, σ2, rfl, hA⟩
          exact zw_iret (st := []) dX11_median_119 rfl (mAct h hl.1.s mScT.rf hA (by simp only [if_pos hc1, if_pos hc2, if_pos hc3]))
        · omega
      · intro j hj hN
        intro σs hl
        refine zw_iload 60 rfl dX11_median_58 rfl ?_
        refine zw_aload_n 61 rfl dX11_median_60 rfl ?_
        refine zw_iload_n 62 rfl dX11_median_61 rfl ?_
        refine zw_cVi1 65 rfl dX11_median_62 kX11_median_176 (Nat.le_of_ble_eq_true rfl) (by first | assumption | exact zm_o0 | exact zm_o _ _ _ rfl) (m_highP (hq.s (by omega) hl.1)) ?_
        refine zw_icmp_ge 113 68 rfl dX11_median_65 (by decide) (by omega) (by omega) (fun h_65 => ?_) (fun h_65 => ?_)
        · omega
        · refine zw_iconst 69 rfl dX11_median_68 ?_
          refine zw_istore 71 rfl dX11_median_69 (Nat.le_of_ble_eq_true rfl) rfl ?_
          exact hN σs hl
      · intro j i hj hi hN
        intro σs hl
        refine zw_iload 73 rfl dX11_median_71 rfl ?_
        refine zw_aload_n 74 rfl dX11_median_73 rfl ?_
        refine zw_iload_n 75 rfl dX11_median_74 rfl ?_
        refine zw_cVi1 78 rfl dX11_median_75 kX11_median_170 (Nat.le_of_ble_eq_true rfl) (by first | assumption | exact zm_o0 | exact zm_o _ _ _ rfl) (m_wideP (hq.s (by omega) hl.1)) ?_
        refine zw_icmp_ge 107 81 rfl dX11_median_78 (by decide) (by omega) (by omega) (fun h_78 => ?_) (fun h_78 => ?_)
        · omega
        · refine zw_aload_n 82 rfl dX11_median_81 rfl ?_
          refine zw_bipush 84 rfl dX11_median_82 rfl ?_
          refine zw_iload 86 rfl dX11_median_84 rfl ?_
          refine zw_iload 88 rfl dX11_median_86 rfl ?_
          refine zw_aload_n 89 rfl dX11_median_88 rfl ?_
          refine zw_iload_n 90 rfl dX11_median_89 rfl ?_
          refine zw_iload 92 rfl dX11_median_90 rfl ?_
          refine zw_iload 94 rfl dX11_median_92 rfl ?_
          refine zw_iload_n 95 rfl dX11_median_94 rfl ?_
          refine zw_cVr4 98 rfl dX11_median_95 kX11_median_319 (Nat.le_of_ble_eq_true rfl) (by first | assumption | exact zm_o0 | exact zm_o _ _ _ rfl) (m_middleOf (hl.1.s.P h.p) hc2 (by omega) (by omega) hc3) ?_
          rintro _ _ ⟨rfl, σ3, rfl, hf⟩
          have hl := hl.fr (mSc2.srt hf) (fun k => hf _ _ (by omega) (by omega))
          refine zw_cVv4 101 rfl dX11_median_98 kX11_median_193 (Nat.le_of_ble_eq_true rfl) (by first | assumption | exact zm_o0 | exact zm_o _ _ _ rfl) (m_putsN (by omega) (by omega)) ?_
          refine zw_iinc 104 rfl dX11_median_101 (Nat.le_of_ble_eq_true rfl) rfl rfl ?_
          refine zw_goto 71 dX11_median_104 (by decide) ?_
          exact hN _ (hl.put1 (by omega) (by omega) (by omega) (by omega) (by omega) (rfl))
      · intro j hj hO
        intro σs hl
        refine zw_iload 73 rfl dX11_median_71 rfl ?_
        refine zw_aload_n 74 rfl dX11_median_73 rfl ?_
        refine zw_iload_n 75 rfl dX11_median_74 rfl ?_
        refine zw_cVi1 78 rfl dX11_median_75 kX11_median_170 (Nat.le_of_ble_eq_true rfl) (by first | assumption | exact zm_o0 | exact zm_o _ _ _ rfl) (m_wideP (hq.s (by omega) hl.1)) ?_
        refine zw_icmp_ge 107 81 rfl dX11_median_78 (by decide) (by omega) (by omega) (fun h_78 => ?_) (fun h_78 => ?_)
        · refine zw_iinc 110 rfl dX11_median_107 (Nat.le_of_ble_eq_true rfl) rfl rfl ?_
          refine zw_goto 58 dX11_median_110 (by decide) ?_
          refine zw_drop 5 ?_
          exact hO σs hl.row
        · omega
    refine zw_aload_n 1 rfl dX11_median_0 rfl ?_
    refine zw_iconst 2 rfl dX11_median_1 ?_
    refine zw_puti 5 rfl dX11_median_2 fp_X11_85 (by first | assumption | exact zm_o0 | exact zm_o _ _ _ rfl) ?_
    refine zw_iload_n 6 rfl dX11_median_5 rfl ?_
    refine zw_cSi1 9 rfl dX11_median_6 kX11_median_316 (Nat.le_of_ble_eq_true rfl) (m_isTo (by omega)) ?_
    refine zw_if_eqB 20 12 rfl dX11_median_9 (by decide) (fun h_9 => ?_) (fun h_9 => ?_)
    · first | exact absurd hc1 h_9 | exact absurd hc2 h_17
    · refine zw_aload_n 13 rfl dX11_median_12 rfl ?_
      refine zw_iload_n 14 rfl dX11_median_13 rfl ?_
      refine zw_cVi1 17 rfl dX11_median_14 kX11_median_173 (Nat.le_of_ble_eq_true rfl) (by first | assumption | exact zm_o0 | exact zm_o _ _ _ rfl) (m_isPicture hP hof) ?_
      refine zw_if_neB 26 20 rfl dX11_median_17 (by decide) (fun h_17 => ?_) (fun h_17 => ?_)
      · refine zw_iload_n 27 rfl dX11_median_26 rfl ?_
        refine zw_iconst 28 rfl dX11_median_27 ?_
        refine zw_iconst 29 rfl dX11_median_28 ?_
        refine zw_cSi3 32 rfl dX11_median_29 kX11_median_106 (Nat.le_of_ble_eq_true rfl) (m_in (by omega) (by omega) (by omega)) ?_
        refine zw_if_neB 41 35 rfl dX11_median_32 (by decide) (fun h_32 => ?_) (fun h_32 => ?_)
        · refine zw_aload_n 42 rfl dX11_median_41 rfl ?_
          refine zw_aload_n 43 rfl dX11_median_42 rfl ?_
          refine zw_iload_n 44 rfl dX11_median_43 rfl ?_
          refine zw_cVi1 47 rfl dX11_median_44 kX11_median_170 (Nat.le_of_ble_eq_true rfl) (by first | assumption | exact zm_o0 | exact zm_o _ _ _ rfl) (m_wideP hq1) ?_
          refine zw_aload_n 48 rfl dX11_median_47 rfl ?_
          refine zw_iload_n 49 rfl dX11_median_48 rfl ?_
          refine zw_cVi1 52 rfl dX11_median_49 kX11_median_176 (Nat.le_of_ble_eq_true rfl) (by first | assumption | exact zm_o0 | exact zm_o _ _ _ rfl) (m_highP hq1) ?_
          refine zw_cVv2 55 rfl dX11_median_52 kX11_median_200 (Nat.le_of_ble_eq_true rfl) (by first | assumption | exact zm_o0 | exact zm_o _ _ _ rfl) m_begins ?_
          refine zw_iconst 56 rfl dX11_median_55 ?_
          refine zw_istore 58 rfl dX11_median_56 (Nat.le_of_ble_eq_true rfl) rfl ?_
          exact key _ (mNw.start (mSc2.rf.u (by unfold mKey2 mKey; omega)))
        · exact absurd hc3 h_32
      · first | exact absurd hc1 h_9 | exact absurd hc2 h_17
  refine zw_aload_n 1 rfl dX11_median_0 rfl ?_
  refine zw_iconst 2 rfl dX11_median_1 ?_
  refine zw_puti 5 rfl dX11_median_2 fp_X11_85 (by first | assumption | exact zm_o0 | exact zm_o _ _ _ rfl) ?_
  refine zw_iload_n 6 rfl dX11_median_5 rfl ?_
  refine zw_cSi1 9 rfl dX11_median_6 kX11_median_316 (Nat.le_of_ble_eq_true rfl) (m_isTo (by omega)) ?_
  refine zw_if_eqB 20 12 rfl dX11_median_9 (by decide) (fun h_9 => ?_) (fun h_9 => ?_)
  · refine zw_aload_n 21 rfl dX11_median_20 rfl ?_
    refine zw_iconst 22 rfl dX11_median_21 ?_
    refine zw_cVi1 25 rfl dX11_median_22 kX11_median_147 (Nat.le_of_ble_eq_true rfl) (by first | assumption | exact zm_o0 | exact zm_o _ _ _ rfl) m_refused ?_
    exact zw_iret (st := []) dX11_median_25 rfl (mRef h mThrown mScT.rf (by simp only [if_neg h_9, if_true, if_false]) (by omega))
  · refine zw_aload_n 13 rfl dX11_median_12 rfl ?_
    refine zw_iload_n 14 rfl dX11_median_13 rfl ?_
    refine zw_cVi1 17 rfl dX11_median_14 kX11_median_173 (Nat.le_of_ble_eq_true rfl) (by first | assumption | exact zm_o0 | exact zm_o _ _ _ rfl) (m_isPicture hP hof) ?_
    refine zw_if_neB 26 20 rfl dX11_median_17 (by decide) (fun h_17 => ?_) (fun h_17 => ?_)
    · refine zw_iload_n 27 rfl dX11_median_26 rfl ?_
      refine zw_iconst 28 rfl dX11_median_27 ?_
      refine zw_iconst 29 rfl dX11_median_28 ?_
      refine zw_cSi3 32 rfl dX11_median_29 kX11_median_106 (Nat.le_of_ble_eq_true rfl) (m_in (by omega) (by omega) (by omega)) ?_
      refine zw_if_neB 41 35 rfl dX11_median_32 (by decide) (fun h_32 => ?_) (fun h_32 => ?_)
      · exact absurd ⟨h_9, h_17, h_32⟩ hc
      · refine zw_aload_n 36 rfl dX11_median_35 rfl ?_
        refine zw_iconst 37 rfl dX11_median_36 ?_
        refine zw_cVi1 40 rfl dX11_median_37 kX11_median_147 (Nat.le_of_ble_eq_true rfl) (by first | assumption | exact zm_o0 | exact zm_o _ _ _ rfl) m_refused ?_
        exact zw_iret (st := []) dX11_median_40 rfl (mRef h mThrown mScT.rf (by simp only [if_pos h_9, if_pos h_17, if_neg h_32, if_true, if_false]) (by omega))
    · refine zw_aload_n 21 rfl dX11_median_20 rfl ?_
      refine zw_iconst 22 rfl dX11_median_21 ?_
      refine zw_cVi1 25 rfl dX11_median_22 kX11_median_147 (Nat.le_of_ble_eq_true rfl) (by first | assumption | exact zm_o0 | exact zm_o _ _ _ rfl) m_refused ?_
      exact zw_iret (st := []) dX11_median_25 rfl (mRef h mThrown mScT.rf (by simp only [if_pos h_9, if_neg h_17, if_true, if_false]) (by omega))
theorem Y_ranked {G : zG} {C : Nat} {σ τ : zSt} {A : zA} {of k : Int} (h : zmR C σ τ A) (hof : -2147483648 ≤ of ∧ of ≤ 2147483647) (hk : -2147483648 ≤ k ∧ k ≤ 2147483647) : zC G M_X11_ranked [.ref C, vi of, vi k] (zmS C, σ, τ) (mQ C (sp_ranked A of k)) := by
  have hP := (mThrown (v := 0)).P h.p
  refine zC_of 2 rfl (Nat.le_of_ble_eq_true rfl) ?_
  by_cases hc : aTold A of ∧ 0 ≤ k ∧ k ≤ (A.1 of.toNat).1 * (A.1 of.toNat).2.1 - 1
  · obtain ⟨hc1, hc2⟩ := hc
    have hq := h.p.pc hc1
    have hq1 := hP.pc hc1
    have hw := hq.wh
    have hwh := zz_wh (w := (A.1 of.toNat).1) (h := (A.1 of.toNat).2.1) (by omega) (by omega)
    generalize hL : (fun (c : Int) (x y m : Int) => m + if (A.1 of.toNat).2.2 x y = c then (1 : Int) else 0) = L
    have hL' : ∀ c x y m, L c x y m = m + if (A.1 of.toNat).2.2 x y = c then (1 : Int) else 0 := fun c x y m => by rw [← hL]
    have hM : ∀ c : Int, aMany (A.1 of.toNat) c = zpt (A.1 of.toNat).1 (L c) 0 (A.1 of.toNat).2.1.toNat 0 := fun c => by rw [← hL]; exact zpt_e _ _ _ _
    have key : ∀ σs : zSt, mSI C 19 40 (zu σ C 0 0) 255 ((0 * (A.1 of.toNat).1.toNat + 0 : Nat) : Int) (fun c => zpt (A.1 of.toNat).1 (L c) 0 0 0) σs → zW G M_X11_ranked (mQ C (sp_ranked A of k)) 47 [some (.ref C), some (vi of), some (vi k), some (vi (0 : Nat)), none] [] (zmS C, σs, τ) := by
      refine zrows (w := (A.1 of.toNat).1.toNat) (h := (A.1 of.toNat).2.1.toNat) (O := fun j => ∀ σs : zSt, mSI C 19 40 (zu σ C 0 0) 255 ((j * (A.1 of.toNat).1.toNat + 0 : Nat) : Int) (fun c => zpt (A.1 of.toNat).1 (L c) 0 j 0) σs → zW G M_X11_ranked (mQ C (sp_ranked A of k)) 47 [some (.ref C), some (vi of), some (vi k), some (vi j), none] [] (zmS C, σs, τ)) (N := fun j i => ∀ σs : zSt, mSI C 19 40 (zu σ C 0 0) 255 ((j * (A.1 of.toNat).1.toNat + i : Nat) : Int) (fun c => zpt (A.1 of.toNat).1 (L c) 0 j i) σs → zW G M_X11_ranked (mQ C (sp_ranked A of k)) 59 [some (.ref C), some (vi of), some (vi k), some (vi j), some (vi i)] [] (zmS C, σs, τ)) ?_ ?_ ?_ ?_
      · intro σs hl
        have hq2 : mPc C σs of (A.1 of.toNat) := hq1.s (by omega) (mSc2.srt hl.1)
        have hs := mSc2.srt hl.1
        obtain ⟨f1, m, f2, f3, f4, f5, f6⟩ := hl
        have e3 : (m : Int) = (A.1 of.toNat).1 * (A.1 of.toNat).2.1 := by rw [← f2, Nat.add_zero, Int.natCast_mul, show (((A.1 of.toNat).1.toNat : Nat) : Int) = (A.1 of.toNat).1 by omega, show (((A.1 of.toNat).2.1.toNat : Nat) : Int) = (A.1 of.toNat).2.1 by omega, Int.mul_comm]
        refine zw_iload_n 48 rfl dX11_ranked_47 rfl ?_
        refine zw_aload_n 49 rfl dX11_ranked_48 rfl ?_
        refine zw_iload_n 50 rfl dX11_ranked_49 rfl ?_
        refine zw_cVi1 53 rfl dX11_ranked_50 kX11_ranked_176 (Nat.le_of_ble_eq_true rfl) (by first | assumption | exact zm_o0 | exact zm_o _ _ _ rfl) (m_highP hq2) ?_
        refine zw_icmp_ge 93 56 rfl dX11_ranked_53 (by decide) (by omega) (by omega) (fun h_53 => ?_) (fun h_53 => ?_)
        · refine zw_aload_n 94 rfl dX11_ranked_93 rfl ?_
          refine zw_aload_n 95 rfl dX11_ranked_94 rfl ?_
          refine zw_getr 98 rfl dX11_ranked_95 fl_X11_70 (by first | assumption | exact zm_o0 | exact zm_o _ _ _ rfl) (by first | assumption | exact zm_f _ _ rfl) ?_
          refine zw_iload_n 99 rfl dX11_ranked_98 rfl ?_
          refine zw_iald 100 rfl dX11_ranked_99 (by first | assumption | exact zm_o0 | exact zm_o _ _ _ rfl) (by omega) (by omega) ?_
          refine zw_cVi1 103 rfl dX11_ranked_100 kX11_ranked_157 (Nat.le_of_ble_eq_true rfl) (by first | assumption | exact zm_o0 | exact zm_o _ _ _ rfl) m_good ?_
          refine zw_iret (st := []) dX11_ranked_103 rfl (mRead h (mThrown.tr hs.s) mScT.rf (by simp only [if_pos hc1, if_pos hc2]) ?_ rfl)
          have e := zsrt_k (M := 256) (k := k.toNat) f4 (by omega) (fun j hj => by have := f5 j hj; omega)
          rw [e, show ((k.toNat : Nat) : Int) = k by omega]
          exact zrk_c (t := fun (c : Nat) => zct (σs (C + 19)) m c) (t' := fun (v : Nat) => aMany (A.1 of.toNat) v) 256 0 _ (fun c _ _ => (f6 c).trans (hM c).symm)
        · omega
      · intro j hj hN
        intro σs hl
        have hq2 : mPc C σs of (A.1 of.toNat) := hq1.s (by omega) (mSc2.srt hl.1)
        refine zw_iload_n 48 rfl dX11_ranked_47 rfl ?_
        refine zw_aload_n 49 rfl dX11_ranked_48 rfl ?_
        refine zw_iload_n 50 rfl dX11_ranked_49 rfl ?_
        refine zw_cVi1 53 rfl dX11_ranked_50 kX11_ranked_176 (Nat.le_of_ble_eq_true rfl) (by first | assumption | exact zm_o0 | exact zm_o _ _ _ rfl) (m_highP hq2) ?_
        refine zw_icmp_ge 93 56 rfl dX11_ranked_53 (by decide) (by omega) (by omega) (fun h_53 => ?_) (fun h_53 => ?_)
        · omega
        · refine zw_iconst 57 rfl dX11_ranked_56 ?_
          refine zw_istore 59 rfl dX11_ranked_57 (Nat.le_of_ble_eq_true rfl) rfl ?_
          exact hN σs hl
      · intro j i hj hi hN
        intro σs hl
        have hq2 : mPc C σs of (A.1 of.toNat) := hq1.s (by omega) (mSc2.srt hl.1)
        have hb : j * (A.1 of.toNat).1.toNat ≤ 11 * 16 := Nat.mul_le_mul (by omega) (by omega)
        refine zw_iload 61 rfl dX11_ranked_59 rfl ?_
        refine zw_aload_n 62 rfl dX11_ranked_61 rfl ?_
        refine zw_iload_n 63 rfl dX11_ranked_62 rfl ?_
        refine zw_cVi1 66 rfl dX11_ranked_63 kX11_ranked_170 (Nat.le_of_ble_eq_true rfl) (by first | assumption | exact zm_o0 | exact zm_o _ _ _ rfl) (m_wideP hq2) ?_
        refine zw_icmp_ge 87 69 rfl dX11_ranked_66 (by decide) (by omega) (by omega) (fun h_66 => ?_) (fun h_66 => ?_)
        · omega
        · refine zw_aload_n 70 rfl dX11_ranked_69 rfl ?_
          refine zw_aload_n 71 rfl dX11_ranked_70 rfl ?_
          refine zw_iload_n 72 rfl dX11_ranked_71 rfl ?_
          refine zw_iload 74 rfl dX11_ranked_72 rfl ?_
          refine zw_iload_n 75 rfl dX11_ranked_74 rfl ?_
          refine zw_cVi3 78 rfl dX11_ranked_75 kX11_ranked_182 (Nat.le_of_ble_eq_true rfl) (by first | assumption | exact zm_o0 | exact zm_o _ _ _ rfl) (m_dotP hq2 (by omega) (by omega)) ?_
          refine zw_cVr1 81 rfl dX11_ranked_78 kX11_ranked_313 (Nat.le_of_ble_eq_true rfl) (by first | assumption | exact zm_o0 | exact zm_o _ _ _ rfl) (m_sorts hl (by omega) (hq2.d (by omega) (by omega))) ?_
          rintro _ _ ⟨rfl, σ3, rfl, hl3⟩
          refine zw_iinc 84 rfl dX11_ranked_81 (Nat.le_of_ble_eq_true rfl) rfl rfl ?_
          refine zw_goto 59 dX11_ranked_84 (by decide) ?_
          exact hN σ3 (by simp only [zpt_s, hL']; exact hl3)
      · intro j hj hO
        intro σs hl
        have hq2 : mPc C σs of (A.1 of.toNat) := hq1.s (by omega) (mSc2.srt hl.1)
        refine zw_iload 61 rfl dX11_ranked_59 rfl ?_
        refine zw_aload_n 62 rfl dX11_ranked_61 rfl ?_
        refine zw_iload_n 63 rfl dX11_ranked_62 rfl ?_
        refine zw_cVi1 66 rfl dX11_ranked_63 kX11_ranked_170 (Nat.le_of_ble_eq_true rfl) (by first | assumption | exact zm_o0 | exact zm_o _ _ _ rfl) (m_wideP hq2) ?_
        refine zw_icmp_ge 87 69 rfl dX11_ranked_66 (by decide) (by omega) (by omega) (fun h_66 => ?_) (fun h_66 => ?_)
        · refine zw_iinc 90 rfl dX11_ranked_87 (Nat.le_of_ble_eq_true rfl) rfl rfl ?_
          refine zw_goto 47 dX11_ranked_90 (by decide) ?_
          refine zw_drop 4 ?_
          exact hO σs (by rw [Nat.succ_mul, Nat.add_zero (j * (A.1 of.toNat).1.toNat + (A.1 of.toNat).1.toNat)]; exact hl)
        · omega
    refine zw_aload_n 1 rfl dX11_ranked_0 rfl ?_
    refine zw_iconst 2 rfl dX11_ranked_1 ?_
    refine zw_puti 5 rfl dX11_ranked_2 fp_X11_85 (by first | assumption | exact zm_o0 | exact zm_o _ _ _ rfl) ?_
    refine zw_aload_n 6 rfl dX11_ranked_5 rfl ?_
    refine zw_iload_n 7 rfl dX11_ranked_6 rfl ?_
    refine zw_cVi1 10 rfl dX11_ranked_7 kX11_ranked_173 (Nat.le_of_ble_eq_true rfl) (by first | assumption | exact zm_o0 | exact zm_o _ _ _ rfl) (m_isPicture hP hof) ?_
    refine zw_if_eqB 34 13 rfl dX11_ranked_10 (by decide) (fun h_10 => ?_) (fun h_10 => ?_)
    · first | exact absurd hc1 h_10 | exact absurd hc2 h_31
    · refine zw_iload_n 14 rfl dX11_ranked_13 rfl ?_
      refine zw_iconst 15 rfl dX11_ranked_14 ?_
      refine zw_aload_n 16 rfl dX11_ranked_15 rfl ?_
      refine zw_iload_n 17 rfl dX11_ranked_16 rfl ?_
      refine zw_cVi1 20 rfl dX11_ranked_17 kX11_ranked_170 (Nat.le_of_ble_eq_true rfl) (by first | assumption | exact zm_o0 | exact zm_o _ _ _ rfl) (m_wideP hq1) ?_
      refine zw_aload_n 21 rfl dX11_ranked_20 rfl ?_
      refine zw_iload_n 22 rfl dX11_ranked_21 rfl ?_
      refine zw_cVi1 25 rfl dX11_ranked_22 kX11_ranked_176 (Nat.le_of_ble_eq_true rfl) (by first | assumption | exact zm_o0 | exact zm_o _ _ _ rfl) (m_highP hq1) ?_
      refine zw_imul 26 rfl dX11_ranked_25 ?_
      refine zw_iconst 27 rfl dX11_ranked_26 ?_
      refine zw_isub 28 rfl dX11_ranked_27 ?_
      refine zw_cSi3 31 rfl dX11_ranked_28 kX11_ranked_106 (Nat.le_of_ble_eq_true rfl) (m_in (by omega) (by omega) (by omega)) ?_
      refine zw_if_neB 40 34 rfl dX11_ranked_31 (by decide) (fun h_31 => ?_) (fun h_31 => ?_)
      · refine zw_aload_n 41 rfl dX11_ranked_40 rfl ?_
        refine zw_iconst 42 rfl dX11_ranked_41 ?_
        refine zw_puti 45 rfl dX11_ranked_42 fp_X11_310 (by first | assumption | exact zm_o0 | exact zm_o _ _ _ rfl) ?_
        refine zw_iconst 46 rfl dX11_ranked_45 ?_
        refine zw_istore_n 47 rfl dX11_ranked_46 (Nat.le_of_ble_eq_true rfl) rfl ?_
        exact key _ (by rw [Nat.zero_mul]; exact mSI.start (by omega))
      · first | exact absurd hc1 h_10 | exact absurd hc2 h_31
  refine zw_aload_n 1 rfl dX11_ranked_0 rfl ?_
  refine zw_iconst 2 rfl dX11_ranked_1 ?_
  refine zw_puti 5 rfl dX11_ranked_2 fp_X11_85 (by first | assumption | exact zm_o0 | exact zm_o _ _ _ rfl) ?_
  refine zw_aload_n 6 rfl dX11_ranked_5 rfl ?_
  refine zw_iload_n 7 rfl dX11_ranked_6 rfl ?_
  refine zw_cVi1 10 rfl dX11_ranked_7 kX11_ranked_173 (Nat.le_of_ble_eq_true rfl) (by first | assumption | exact zm_o0 | exact zm_o _ _ _ rfl) (m_isPicture hP hof) ?_
  refine zw_if_eqB 34 13 rfl dX11_ranked_10 (by decide) (fun h_10 => ?_) (fun h_10 => ?_)
  · refine zw_aload_n 35 rfl dX11_ranked_34 rfl ?_
    refine zw_iconst 36 rfl dX11_ranked_35 ?_
    refine zw_cVi1 39 rfl dX11_ranked_36 kX11_ranked_147 (Nat.le_of_ble_eq_true rfl) (by first | assumption | exact zm_o0 | exact zm_o _ _ _ rfl) m_refused ?_
    exact zw_iret (st := []) dX11_ranked_39 rfl (mRef h mThrown mScT.rf (by simp only [if_neg h_10, if_true, if_false]) (by omega))
  · have hw := (hP.pc h_10).wh
    have hwh := zz_wh (w := (A.1 of.toNat).1) (h := (A.1 of.toNat).2.1) (by omega) (by omega)
    refine zw_iload_n 14 rfl dX11_ranked_13 rfl ?_
    refine zw_iconst 15 rfl dX11_ranked_14 ?_
    refine zw_aload_n 16 rfl dX11_ranked_15 rfl ?_
    refine zw_iload_n 17 rfl dX11_ranked_16 rfl ?_
    refine zw_cVi1 20 rfl dX11_ranked_17 kX11_ranked_170 (Nat.le_of_ble_eq_true rfl) (by first | assumption | exact zm_o0 | exact zm_o _ _ _ rfl) (m_wideP (hP.pc h_10)) ?_
    refine zw_aload_n 21 rfl dX11_ranked_20 rfl ?_
    refine zw_iload_n 22 rfl dX11_ranked_21 rfl ?_
    refine zw_cVi1 25 rfl dX11_ranked_22 kX11_ranked_176 (Nat.le_of_ble_eq_true rfl) (by first | assumption | exact zm_o0 | exact zm_o _ _ _ rfl) (m_highP (hP.pc h_10)) ?_
    refine zw_imul 26 rfl dX11_ranked_25 ?_
    refine zw_iconst 27 rfl dX11_ranked_26 ?_
    refine zw_isub 28 rfl dX11_ranked_27 ?_
    refine zw_cSi3 31 rfl dX11_ranked_28 kX11_ranked_106 (Nat.le_of_ble_eq_true rfl) (m_in (by omega) (by omega) (by omega)) ?_
    refine zw_if_neB 40 34 rfl dX11_ranked_31 (by decide) (fun h_31 => ?_) (fun h_31 => ?_)
    · exact absurd ⟨h_10, h_31⟩ hc
    · refine zw_aload_n 35 rfl dX11_ranked_34 rfl ?_
      refine zw_iconst 36 rfl dX11_ranked_35 ?_
      refine zw_cVi1 39 rfl dX11_ranked_36 kX11_ranked_147 (Nat.le_of_ble_eq_true rfl) (by first | assumption | exact zm_o0 | exact zm_o _ _ _ rfl) m_refused ?_
      exact zw_iret (st := []) dX11_ranked_39 rfl (mRef h mThrown mScT.rf (by simp only [if_pos h_10, if_neg h_31, if_true, if_false]) (by omega))
