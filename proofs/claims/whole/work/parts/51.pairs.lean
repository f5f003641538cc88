/-- the codes gathered so far -/
def xPR (B : Nat) (σ1 : zSt) (l : List Int) (σs : zSt) : Prop := (∀ b, (b < B + 71 ∨ B + 72 < b) → σs b = σ1 b) ∧ (∀ k, k < l.length → σs (B + 72) k = l.getD k 0) ∧ σs (B + 71) 1 = l.length ∧ ∀ e ∈ l, 0 ≤ e ∧ e ≤ 65535
theorem c_pairAdd {G : zG} {B : Nat} {σ σ1 τ : zSt} {l : List Int} {a b : Int} (hl : xPR B σ1 l σ) (hlt : l.length < 356) (ha : 0 ≤ a ∧ a ≤ 255) (hb : 0 ≤ b ∧ b ≤ 255) : zC G M_X4_add [.ref (B + 71), vi a, vi b] (zxS B, σ, τ) (fun r w => r = none ∧ ∃ σ' : zSt, w = (zxS B, σ', τ) ∧ xPR B σ1 (l ++ [zcode a b]) σ') := by
  obtain ⟨a1, a2, a3, a4⟩ := hl
  refine zC_of 0 rfl (Nat.le_of_ble_eq_true rfl) ?_
  have e1 : (if a ≤ b then a else b) * 256 + (if a ≤ b then b else a) = zcode a b := by unfold zcode; (repeat' split) <;> omega
  have hz : 0 ≤ zcode a b ∧ zcode a b ≤ 65535 := by unfold zcode; split <;> omega
  have fin : zW G M_X4_add (fun r w => r = none ∧ ∃ σ' : zSt, w = (zxS B, σ', τ) ∧ xPR B σ1 (l ++ [zcode a b]) σ') 44 [some (.ref (B + 71)), some (vi a), some (vi b)] [] (zxS B, zu (zu σ (B + 72) l.length (zcode a b)) (B + 71) 1 (l.length + 1), τ) := by
    refine zw_vret (st := []) dX4_add_44 rfl ⟨rfl, _, rfl, fun c hc => by rw [zu_row _ _ (by omega), zu_row _ _ (by omega)]; exact a1 c hc, fun k hk => ?_, by rw [zu_eq]; simp, fun e he => ?_⟩
    · rw [zu_row _ _ (by omega)]
      simp only [List.length_append, List.length_cons, List.length_nil] at hk
      by_cases e : k = l.length
      · subst e; rw [zu_eq]; simp
      · rw [zu_k _ _ e, a2 k (by omega)]; simp [List.getD, List.getElem?_append_left (show k < l.length by omega)]
    · simp only [List.mem_append, List.mem_singleton] at he
      rcases he with q | q
      · exact a4 e q
      · rw [q]; exact hz
  have fin2 : ∀ u : Int, u = zcode a b → zW G M_X4_add (fun r w => r = none ∧ ∃ σ' : zSt, w = (zxS B, σ', τ) ∧ xPR B σ1 (l ++ [zcode a b]) σ') 44 [some (.ref (B + 71)), some (vi a), some (vi b)] [] (zxS B, zu (zu σ (B + 72) (l.length : Int).toNat u) (B + 71) 1 (l.length + 1), τ) := fun u hu => by rw [hu, Int.toNat_natCast]; exact fin
  refine zw_aload_n 1 rfl dX4_add_0 rfl ?_
  refine zw_geti 4 rfl dX4_add_1 fl_X4_15 (by first | assumption | exact zx_o0 | exact zx_o _ _ _ rfl) ?_
  rw [a3]
  refine zw_sipush 7 rfl dX4_add_4 rfl ?_
  refine zw_icmp_ge 44 10 rfl dX4_add_7 (by decide) (by omega) (by omega) (fun h_7 => ?_) (fun h_7 => ?_)
  · first | omega | exact fin2 _ (by unfold zcode; (repeat' split) <;> omega)
  · refine zw_aload_n 11 rfl dX4_add_10 rfl ?_
    refine zw_getr 14 rfl dX4_add_11 fl_X4_11 (by first | assumption | exact zx_o0 | exact zx_o _ _ _ rfl) (by first | assumption | exact zx_f0 _ _ rfl | exact zx_f _ _ _ rfl) ?_
    refine zw_aload_n 15 rfl dX4_add_14 rfl ?_
    refine zw_geti 18 rfl dX4_add_15 fl_X4_15 (by first | assumption | exact zx_o0 | exact zx_o _ _ _ rfl) ?_
    rw [a3]
    refine zw_iload_n 19 rfl dX4_add_18 rfl ?_
    refine zw_iload_n 20 rfl dX4_add_19 rfl ?_
    refine zw_mmin 23 rfl dX4_add_20 kmX4_45 ⟨Nat.le_of_ble_eq_true rfl, Nat.le_of_ble_eq_true rfl⟩ (by omega) (by omega) ?_
    refine zw_sipush 26 rfl dX4_add_23 rfl ?_
    refine zw_imul 27 rfl dX4_add_26 ?_
    refine zw_iload_n 28 rfl dX4_add_27 rfl ?_
    refine zw_iload_n 29 rfl dX4_add_28 rfl ?_
    refine zw_mmax 32 rfl dX4_add_29 kmX4_50 ⟨Nat.le_of_ble_eq_true rfl, Nat.le_of_ble_eq_true rfl⟩ (by omega) (by omega) ?_
    refine zw_iadd 33 rfl dX4_add_32 ?_
    refine zw_iast 34 rfl dX4_add_33 (by first | assumption | exact zx_o0 | exact zx_o _ _ _ rfl) (by omega) (by omega) ?_
    refine zw_aload_n 35 rfl dX4_add_34 rfl ?_
    refine zw_dup 36 rfl dX4_add_35 rfl ?_
    refine zw_geti 39 rfl dX4_add_36 fl_X4_15 (by first | assumption | exact zx_o0 | exact zx_o _ _ _ rfl) ?_
    refine zw_iconst 40 rfl dX4_add_39 ?_
    rw [zu_row _ _ (by omega), a3]
    refine zw_iadd 41 rfl dX4_add_40 ?_
    refine zw_puti 44 rfl dX4_add_41 fp_X4_15 (by first | assumption | exact zx_o0 | exact zx_o _ _ _ rfl) ?_
    first | omega | exact fin2 _ (by unfold zcode; (repeat' split) <;> omega)
/-- only the order of the codes changes -/
def xPP (B N : Nat) (σ σ' : zSt) : Prop := (∀ b, b ≠ B + 72 → σ' b = σ b) ∧ (∀ v, zct (σ' (B + 72)) N v = zct (σ (B + 72)) N v) ∧ ((∀ k, k < N → 0 ≤ σ (B + 72) k ∧ σ (B + 72) k ≤ 65535) → ∀ k, k < N → 0 ≤ σ' (B + 72) k ∧ σ' (B + 72) k ≤ 65535)
theorem xPP.rf {B N : Nat} {σ : zSt} : xPP B N σ σ := ⟨fun _ _ => rfl, fun _ => rfl, fun q => q⟩
theorem xPP.tr {B N : Nat} {σ σ' σ'' : zSt} (h : xPP B N σ σ') (h' : xPP B N σ' σ'') : xPP B N σ σ'' := ⟨fun b hb => by rw [h'.1 b hb, h.1 b hb], fun v => by rw [h'.2.1, h.2.1], fun q => h'.2.2 (h.2.2 q)⟩
theorem c_sink {G : zG} {B N fr : Nat} {σ τ : zSt} {gap : Int} (hf : fr < N) (hN : N ≤ 356) (hg : 1 ≤ gap ∧ gap ≤ 132) (hr : ∀ k, k < N → 0 ≤ σ (B + 72) k ∧ σ (B + 72) k ≤ 65535) : zC G M_X4_sink [.ref (B + 71), vi fr, vi gap] (zxS B, σ, τ) (fun r w => r = none ∧ ∃ σ' : zSt, w = (zxS B, σ', τ) ∧ xPP B N σ σ' ∧ (gap = 1 → zsrt (σ (B + 72)) fr → zsrt (σ' (B + 72)) (fr + 1))) := by
  refine zC_of 2 rfl (Nat.le_of_ble_eq_true rfl) ?_
  have hc := hr fr hf
  generalize hcd : σ (B + 72) fr = cd at hc
  have loop : ∀ (n at' : Nat) (σs : zSt), at' ≤ fr → at' < n → (∀ b, b ≠ B + 72 → σs b = σ b) → (∀ k, k < N → 0 ≤ σs (B + 72) k ∧ σs (B + 72) k ≤ 65535) → (∀ v, zct (fun k => if k = at' then cd else σs (B + 72) k) N v = zct (σ (B + 72)) N v) → (gap = 1 → zsk (σ (B + 72)) (σs (B + 72)) fr at' cd) → zW G M_X4_sink (fun r w => r = none ∧ ∃ σ' : zSt, w = (zxS B, σ', τ) ∧ xPP B N σ σ' ∧ (gap = 1 → zsrt (σ (B + 72)) fr → zsrt (σ' (B + 72)) (fr + 1))) 10 [some (.ref (B + 71)), some (vi fr), some (vi gap), some (vi cd), some (vi at')] [] (zxS B, σs, τ) := by
    intro n
    induction n with
    | zero => intro at' σs h1 h2; omega
    | succ n ih =>
      intro at' σs h1 h2 h3 h4 h5 h6
      have nxt : ∀ _ : gap.toNat ≤ at', (cd < σs (B + 72) (at' - gap.toNat)) → zW G M_X4_sink (fun r w => r = none ∧ ∃ σ' : zSt, w = (zxS B, σ', τ) ∧ xPP B N σ σ' ∧ (gap = 1 → zsrt (σ (B + 72)) fr → zsrt (σ' (B + 72)) (fr + 1))) 10 [some (.ref (B + 71)), some (vi fr), some (vi gap), some (vi cd), some (vi ((at' - gap.toNat : Nat) : Int))] [] (zxS B, zu σs (B + 72) (at' : Int).toNat (σs (B + 72) (((at' - gap.toNat : Nat) : Int)).toNat), τ) := by
        intro q1 q2
        rw [Int.toNat_natCast, Int.toNat_natCast]
        have ee : ∀ k, zu σs (B + 72) at' (σs (B + 72) (at' - gap.toNat)) (B + 72) k = if k = at' then σs (B + 72) (at' - gap.toNat) else σs (B + 72) k := fun k => by
          by_cases e : k = at'
          · subst e; rw [zu_eq, if_pos rfl]
          · rw [zu_k _ _ e, if_neg e]
        refine ih (at' - gap.toNat) _ (by omega) (by omega) (fun b hb => by rw [zu_row _ _ hb]; exact h3 b hb) (fun k hk => ?_) (fun v => ?_) (fun g1 => ?_)
        · rw [ee]; split
          · exact h4 _ (by omega)
          · exact h4 k hk
        · rw [← h5 v, ← zct_sw (f := fun k => if k = at' then cd else σs (B + 72) k) (i := at') (j := at' - gap.toNat) cd v (by omega) (by omega) (by omega) (by simp)]
          refine zct_c (fun k hk => ?_) v
          rw [ee, if_neg (show ¬ at' - gap.toNat = at' by omega)]
          (repeat' split) <;> first | rfl | omega
        · have q := h6 g1
          have e : at' = (at' - gap.toNat) + 1 := by omega
          generalize at' - gap.toNat = m at e q2 ee ⊢
          subst e
          have t := zsk_step q q2
          refine ⟨t.1, fun j hj => ?_, fun j hj hn => ?_⟩
          · rw [ee]; exact t.2.1 j hj
          · rw [ee]; exact t.2.2 j hj hn
      have fin : ((at' : Int) < gap ∨ σs (B + 72) ((at' : Int) - gap).toNat ≤ cd) → zW G M_X4_sink (fun r w => r = none ∧ ∃ σ' : zSt, w = (zxS B, σ', τ) ∧ xPP B N σ σ' ∧ (gap = 1 → zsrt (σ (B + 72)) fr → zsrt (σ' (B + 72)) (fr + 1))) 58 [some (.ref (B + 71)), some (vi fr), some (vi gap), some (vi cd), some (vi at')] [] (zxS B, σs, τ) := by
        intro hor
        refine zw_aload_n 59 rfl dX4_sink_58 rfl ?_
        refine zw_getr 62 rfl dX4_sink_59 fl_X4_11 (by first | assumption | exact zx_o0 | exact zx_o _ _ _ rfl) (by first | assumption | exact zx_f0 _ _ rfl | exact zx_f _ _ _ rfl) ?_
        refine zw_iload 64 rfl dX4_sink_62 rfl ?_
        refine zw_iload_n 65 rfl dX4_sink_64 rfl ?_
        refine zw_iast 66 rfl dX4_sink_65 (by first | assumption | exact zx_o0 | exact zx_o _ _ _ rfl) (by omega) (by omega) ?_
        refine zw_vret (st := []) dX4_sink_66 rfl ⟨rfl, _, rfl, ⟨fun b hb => by rw [zu_row _ _ hb]; exact h3 b hb, fun v => ?_, fun q k hk => ?_⟩, fun g1 hs => ?_⟩
        · rw [← h5 v]
          refine zct_c (fun k hk => ?_) v
          rw [Int.toNat_natCast]
          by_cases e : k = at'
          · subst e; rw [zu_eq, if_pos rfl]
          · rw [zu_k _ _ e, if_neg e]
        · rw [Int.toNat_natCast]
          by_cases e : k = at'
          · subst e; rw [zu_eq]; exact hc
          · rw [zu_k _ _ e]; exact h4 k hk
        · have hk := h6 g1
          have := zsk_end hk hs (by
            by_cases e : at' = 0
            · exact Or.inl e
            · right
              rcases hor with q | q
              · omega
              · rw [show ((at' : Int) - gap).toNat = at' - 1 by omega, hk.2.1 _ (by omega)] at q; exact q)
          intro i j hij hj
          have t := this i j hij hj
          simp only at t
          rw [Int.toNat_natCast]
          have ee : ∀ k, zu σs (B + 72) at' cd (B + 72) k = if k = at' then cd else σs (B + 72) k := fun k => by
            by_cases e : k = at'
            · subst e; rw [zu_eq, if_pos rfl]
            · rw [zu_k _ _ e, if_neg e]
          rw [ee, ee]; exact t
      refine zw_iload_n 11 rfl dX4_sink_10 rfl ?_
      refine zw_if_le 58 14 rfl dX4_sink_11 (by decide) (by omega) (fun h_11 => ?_) (fun h_11 => ?_)
      · first | exact fin (Or.inl h_17) | exact fin (Or.inr h_30) | (exfalso; omega)
      · refine zw_iload 16 rfl dX4_sink_14 rfl ?_
        refine zw_iload_n 17 rfl dX4_sink_16 rfl ?_
        refine zw_icmp_lt 58 20 rfl dX4_sink_17 (by decide) (by omega) (by omega) (fun h_17 => ?_) (fun h_17 => ?_)
        · first | exact fin (Or.inl h_17) | exact fin (Or.inr h_30) | (exfalso; omega)
        · have h4a := h4 ((at' : Int) - gap).toNat (by omega)
          refine zw_aload_n 21 rfl dX4_sink_20 rfl ?_
          refine zw_getr 24 rfl dX4_sink_21 fl_X4_11 (by first | assumption | exact zx_o0 | exact zx_o _ _ _ rfl) (by first | assumption | exact zx_f0 _ _ rfl | exact zx_f _ _ _ rfl) ?_
          refine zw_iload 26 rfl dX4_sink_24 rfl ?_
          refine zw_iload_n 27 rfl dX4_sink_26 rfl ?_
          refine zw_isub 28 rfl dX4_sink_27 ?_
          refine zw_iald 29 rfl dX4_sink_28 (by first | assumption | exact zx_o0 | exact zx_o _ _ _ rfl) (by omega) (by omega) ?_
          refine zw_iload_n 30 rfl dX4_sink_29 rfl ?_
          refine zw_icmp_le 58 33 rfl dX4_sink_30 (by decide) (by omega) (by omega) (fun h_30 => ?_) (fun h_30 => ?_)
          · first | exact fin (Or.inl h_17) | exact fin (Or.inr h_30) | (exfalso; omega)
          · refine zw_aload_n 34 rfl dX4_sink_33 rfl ?_
            refine zw_getr 37 rfl dX4_sink_34 fl_X4_11 (by first | assumption | exact zx_o0 | exact zx_o _ _ _ rfl) (by first | assumption | exact zx_f0 _ _ rfl | exact zx_f _ _ _ rfl) ?_
            refine zw_iload 39 rfl dX4_sink_37 rfl ?_
            refine zw_aload_n 40 rfl dX4_sink_39 rfl ?_
            refine zw_getr 43 rfl dX4_sink_40 fl_X4_11 (by first | assumption | exact zx_o0 | exact zx_o _ _ _ rfl) (by first | assumption | exact zx_f0 _ _ rfl | exact zx_f _ _ _ rfl) ?_
            refine zw_iload 45 rfl dX4_sink_43 rfl ?_
            refine zw_iload_n 46 rfl dX4_sink_45 rfl ?_
            refine zw_isub 47 rfl dX4_sink_46 ?_
            refine zw_iald 48 rfl dX4_sink_47 (by first | assumption | exact zx_o0 | exact zx_o _ _ _ rfl) (by omega) (by omega) ?_
            refine zw_iast 49 rfl dX4_sink_48 (by first | assumption | exact zx_o0 | exact zx_o _ _ _ rfl) (by omega) (by omega) ?_
            refine zw_iload 51 rfl dX4_sink_49 rfl ?_
            refine zw_iload_n 52 rfl dX4_sink_51 rfl ?_
            refine zw_isub 53 rfl dX4_sink_52 ?_
            refine zw_istore 55 rfl dX4_sink_53 (Nat.le_of_ble_eq_true rfl) rfl ?_
            refine zw_goto 10 dX4_sink_55 (by decide) ?_
            have e : (at' : Int) - gap = ((at' - gap.toNat : Nat) : Int) := by omega
            rw [e]
            rw [e, Int.toNat_natCast] at h4a h_30
            exact nxt (by omega) (by omega)
  refine zw_aload_n 1 rfl dX4_sink_0 rfl ?_
  refine zw_getr 4 rfl dX4_sink_1 fl_X4_11 (by first | assumption | exact zx_o0 | exact zx_o _ _ _ rfl) (by first | assumption | exact zx_f0 _ _ rfl | exact zx_f _ _ _ rfl) ?_
  refine zw_iload_n 5 rfl dX4_sink_4 rfl ?_
  refine zw_iald 6 rfl dX4_sink_5 (by first | assumption | exact zx_o0 | exact zx_o _ _ _ rfl) (by omega) (by omega) ?_
  refine zw_istore_n 7 rfl dX4_sink_6 (Nat.le_of_ble_eq_true rfl) rfl ?_
  refine zw_iload_n 8 rfl dX4_sink_7 rfl ?_
  refine zw_istore 10 rfl dX4_sink_8 (Nat.le_of_ble_eq_true rfl) rfl ?_
  rw [Int.toNat_natCast, hcd]
  exact loop (fr + 1) fr σ (Nat.le_refl _) (Nat.lt_succ_self _) (fun _ _ => rfl) hr (fun v => zct_c (fun k hk => by split <;> simp_all) v) (fun _ => ⟨Nat.le_refl _, fun _ _ => rfl, fun j h1 h2 => by omega⟩)
