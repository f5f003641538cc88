theorem z_gap_b {i : Nat} (hi : i < 6) : 1 ≤ z_gap i ∧ z_gap i ≤ 132 ∧ (i = 5 → z_gap i = 1) := by
  rcases (show i = 0 ∨ i = 1 ∨ i = 2 ∨ i = 3 ∨ i = 4 ∨ i = 5 by omega) with e | e | e | e | e | e <;> subst e <;> decide
theorem zsrt_fin {f : Nat → Int} {n N : Nat} (h : zsrt f n ∧ (n ≤ N ∨ N = 0)) (hn : N ≤ n) : zsrt f N := fun i j h1 h2 => h.1 i j h1 (by omega)
theorem c_pairSort {G : zG} {B N : Nat} {σ τ : zSt} (hN : N ≤ 356) (hm : σ (B + 71) 1 = N) (hr : ∀ k, k < N → 0 ≤ σ (B + 72) k ∧ σ (B + 72) k ≤ 65535) : zC G M_X4_sort [.ref (B + 71)] (zxS B, σ, τ) (fun r w => r = none ∧ ∃ σ' : zSt, w = (zxS B, σ', τ) ∧ xPP B N σ σ' ∧ zsrt (σ' (B + 72)) N) := by
  refine zC_of 5 rfl (Nat.le_of_ble_eq_true rfl) ?_
  have outer : ∀ (fu i : Nat) (σs : zSt), i ≤ 6 → 6 - i < fu → xPP B N σ σs → (i = 6 → zsrt (σs (B + 72)) N) → zW G M_X4_sort (fun r w => r = none ∧ ∃ σ' : zSt, w = (zxS B, σ', τ) ∧ xPP B N σ σ' ∧ zsrt (σ' (B + 72)) N) 9 [some (.ref (B + 71)), some (.ref (zgP G)), some (vi 6), some (vi i), none, none] [] (zxS B, σs, τ) := by
    intro fu
    induction fu with
    | zero => intro i σs h1 h2; omega
    | succ fu ih =>
      intro i σs h1 h2 hp hs
      have inner : ∀ (fm n : Nat) (σs : zSt), i < 6 → 1 ≤ n ∧ n ≤ 488 → N - n < fm → xPP B N σ σs → (z_gap i = 1 → zsrt (σs (B + 72)) n ∧ (n ≤ N ∨ N = 0)) → zW G M_X4_sort (fun r w => r = none ∧ ∃ σ' : zSt, w = (zxS B, σ', τ) ∧ xPP B N σ σ' ∧ zsrt (σ' (B + 72)) N) 23 [some (.ref (B + 71)), some (.ref (zgP G)), some (vi 6), some (vi i), some (vi (z_gap i)), some (vi n)] [] (zxS B, σs, τ) := by
        intro fm
        induction fm with
        | zero => intro n σs h3 h4 h5; omega
        | succ fm ihm =>
          intro n σs h3 h4 h5 hp hs
          have hg := z_gap_b h3
          have hn1 : σs (B + 71) 1 = N := by rw [hp.1 _ (by omega)]; exact hm
          refine zw_iload 25 rfl dX4_sort_23 rfl ?_
          refine zw_aload_n 26 rfl dX4_sort_25 rfl ?_
          refine zw_geti 29 rfl dX4_sort_26 fl_X4_15 (by first | assumption | exact zx_o0 | exact zx_o _ _ _ rfl) ?_
          rw [hn1]
          refine zw_icmp_ge 46 32 rfl dX4_sort_29 (by decide) (by omega) (by omega) (fun h_29 => ?_) (fun h_29 => ?_)
          · refine zw_iinc 49 rfl dX4_sort_46 (Nat.le_of_ble_eq_true rfl) rfl rfl ?_
            refine zw_goto 9 dX4_sort_49 (by decide) ?_
            refine zw_drop 4 ?_
            refine zw_drop 5 ?_
            exact ih (i + 1) _ (by omega) (by omega) hp (fun e => zsrt_fin (hs (hg.2.2 (by omega))) (by omega))
          · refine zw_aload_n 33 rfl dX4_sort_32 rfl ?_
            refine zw_iload 35 rfl dX4_sort_33 rfl ?_
            refine zw_iload 37 rfl dX4_sort_35 rfl ?_
            refine zw_cVr2 40 rfl dX4_sort_37 kX4_sort_56 (Nat.le_of_ble_eq_true rfl) (by first | assumption | exact zx_o0 | exact zx_o _ _ _ rfl) (c_sink (N := N) (by omega) hN (by omega) (hp.2.2 hr)) ?_
            rintro _ _ ⟨rfl, σ2, rfl, hq1, hq2⟩
            refine zw_iinc 43 rfl dX4_sort_40 (Nat.le_of_ble_eq_true rfl) rfl rfl ?_
            refine zw_goto 23 dX4_sort_43 (by decide) ?_
            exact ihm (n + 1) _ h3 (by omega) (by omega) (hp.tr hq1) (fun e => ⟨hq2 e (hs e).1, by omega⟩)
      refine zw_iload_n 10 rfl dX4_sort_9 rfl ?_
      refine zw_iload_n 11 rfl dX4_sort_10 rfl ?_
      refine zw_icmp_ge 52 14 rfl dX4_sort_11 (by decide) (by omega) (by omega) (fun h_11 => ?_) (fun h_11 => ?_)
      · exact zw_vret (st := []) dX4_sort_52 rfl ⟨rfl, _, rfl, hp, hs (by omega)⟩
      · refine zw_aload_n 15 rfl dX4_sort_14 rfl ?_
        refine zw_iload_n 16 rfl dX4_sort_15 rfl ?_
        refine zw_tabP 17 rfl dX4_sort_16 (by omega) ?_
        refine zw_istore 19 rfl dX4_sort_17 (Nat.le_of_ble_eq_true rfl) rfl ?_
        refine zw_iload 21 rfl dX4_sort_19 rfl ?_
        refine zw_istore 23 rfl dX4_sort_21 (Nat.le_of_ble_eq_true rfl) rfl ?_
        rw [Int.toNat_natCast]
        have hg := z_gap_b (i := i) (by omega)
        have e : z_gap i = (((z_gap i).toNat : Nat) : Int) := by omega
        have t := inner (N + 1) (z_gap i).toNat σs (by omega) (by omega) (by omega) hp (fun e => ⟨fun a b h1 h2 => by rw [show a = b by omega]; exact Int.le_refl _, by omega⟩)
        rw [← e] at t
        exact t
  refine zw_getP 3 rfl dX4_sort_0 kP ?_
  refine zw_astore_n 4 rfl dX4_sort_3 (Nat.le_of_ble_eq_true rfl) rfl ?_
  refine zw_aload_n 5 rfl dX4_sort_4 rfl ?_
  refine zw_alenP 6 rfl dX4_sort_5 ?_
  refine zw_istore_n 7 rfl dX4_sort_6 (Nat.le_of_ble_eq_true rfl) rfl ?_
  refine zw_iconst 8 rfl dX4_sort_7 ?_
  refine zw_istore_n 9 rfl dX4_sort_8 (Nat.le_of_ble_eq_true rfl) rfl ?_
  exact outer 7 0 σ (by omega) (by omega) xPP.rf (by omega)
def xPC (B N : Nat) (σ : zSt) (s : zRu) (σs : zSt) : Prop := (∀ b, b ≠ B + 71 → σs b = σ b) ∧ σs (B + 71) 1 = N ∧ σs (B + 71) 2 = s.2.1 ∧ σs (B + 71) 3 = s.2.2.1 ∧ σs (B + 71) 4 = s.2.2.2
theorem aRu_b {g : Nat → Int} {n : Nat} : (0 ≤ (aRu g 0 n).1 ∧ (aRu g 0 n).1 ≤ n) ∧ (0 ≤ (aRu g 0 n).2.1 ∧ (aRu g 0 n).2.1 ≤ n) ∧ 0 ≤ (aRu g 0 n).2.2.2 ∧ (aRu g 0 n).2.2.2 ≤ n := by
  induction n with
  | zero => simp [aRu, zfold]
  | succ n ih =>
    have e : aRu g 0 (n + 1) = aRuS g 0 n (aRu g 0 n) := rfl
    rw [e]
    generalize aRu g 0 n = s at ih
    unfold aRuS
    split <;> simp only <;> (refine ⟨by omega, by omega, ?_, ?_⟩ <;> split <;> omega)
theorem c_runs {G : zG} {B N : Nat} {σ τ : zSt} (hN : N ≤ 356) (hm : σ (B + 71) 1 = N) (hr : ∀ k, k < N → 0 ≤ σ (B + 72) k ∧ σ (B + 72) k ≤ 65535) : zC G M_X4_countRuns [.ref (B + 71)] (zxS B, σ, τ) (fun r w => r = none ∧ ∃ σ' : zSt, w = (zxS B, σ', τ) ∧ xPC B N σ (aRu (σ (B + 72)) 0 N) σ') := by
  refine zC_of 3 rfl (Nat.le_of_ble_eq_true rfl) ?_
  have loop : ∀ (fu k : Nat) (s : zRu) (σs : zSt), k ≤ N → N - k < fu → s = aRu (σ (B + 72)) 0 k → xPC B N σ s σs → zW G M_X4_countRuns (fun r w => r = none ∧ ∃ σ' : zSt, w = (zxS B, σ', τ) ∧ xPC B N σ (aRu (σ (B + 72)) 0 N) σ') 19 [some (.ref (B + 71)), some (vi s.1), some (vi k), none] [] (zxS B, σs, τ) := by
    intro fu
    induction fu with
    | zero => intro k s σs h1 h2; omega
    | succ fu ih =>
      intro k s σs h1 h2 hs hc
      obtain ⟨c1, c2, c3, c4, c5⟩ := id hc
      have hb := aRu_b (g := σ (B + 72)) (n := k)
      rw [← hs] at hb
      have e72 : σs (B + 72) = σ (B + 72) := c1 _ (by omega)
      have L107 : k < N → ∀ (s' : zRu) (σs : zSt) (u : Int), s' = aRuS (σ (B + 72)) 0 k s → xPC B N σ s' σs → zW G M_X4_countRuns (fun r w => r = none ∧ ∃ σ' : zSt, w = (zxS B, σ', τ) ∧ xPC B N σ (aRu (σ (B + 72)) 0 N) σ') 107 [some (.ref (B + 71)), some (vi s'.1), some (vi k), some (vi u)] [] (zxS B, σs, τ) := by
        intro hk s' σs u hs' hc
        refine zw_iinc 110 rfl dX4_countRuns_107 (Nat.le_of_ble_eq_true rfl) rfl rfl ?_
        refine zw_goto 19 dX4_countRuns_110 (by decide) ?_
        refine zw_drop 3 ?_
        exact ih (k + 1) s' σs (by omega) (by omega) (by rw [hs', hs]; rfl) hc
      have L53 : k < N → ∀ u : Int, (u = 1 ∧ (0 < k ∧ σ (B + 72) k = σ (B + 72) (k - 1))) ∨ (u = 0 ∧ ¬ (0 < k ∧ σ (B + 72) k = σ (B + 72) (k - 1))) → zW G M_X4_countRuns (fun r w => r = none ∧ ∃ σ' : zSt, w = (zxS B, σ', τ) ∧ xPC B N σ (aRu (σ (B + 72)) 0 N) σ') 53 [some (.ref (B + 71)), some (vi s.1), some (vi k), none] [vi u] (zxS B, σs, τ) := by
        intro hk u hu
        refine zw_istore_n 54 rfl dX4_countRuns_53 (Nat.le_of_ble_eq_true rfl) rfl ?_
        refine zw_iload_n 55 rfl dX4_countRuns_54 rfl ?_
        refine zw_if_eq 64 58 rfl dX4_countRuns_55 (by decide) (by omega) (fun h_55 => ?_) (fun h_55 => ?_)
        · refine zw_iconst 65 rfl dX4_countRuns_64 ?_
          refine zw_istore_n 66 rfl dX4_countRuns_65 (Nat.le_of_ble_eq_true rfl) rfl ?_
          refine zw_aload_n 67 rfl dX4_countRuns_66 rfl ?_
          refine zw_dup 68 rfl dX4_countRuns_67 rfl ?_
          refine zw_geti 71 rfl dX4_countRuns_68 fl_X4_59 (by first | assumption | exact zx_o0 | exact zx_o _ _ _ rfl) ?_
          rw [c3]
          refine zw_iload_n 72 rfl dX4_countRuns_71 rfl ?_
          refine zw_if_eq 79 75 rfl dX4_countRuns_72 (by decide) (by omega) (fun h_72 => ?_) (fun h_72 => ?_)
          · refine zw_iconst 80 rfl dX4_countRuns_79 ?_
            refine zw_iadd 81 rfl dX4_countRuns_80 ?_
            refine zw_puti 84 rfl dX4_countRuns_81 fp_X4_59 (by first | assumption | exact zx_o0 | exact zx_o _ _ _ rfl) ?_
            refine zw_iload_n 85 rfl dX4_countRuns_84 rfl ?_
            refine zw_aload_n 86 rfl dX4_countRuns_85 rfl ?_
            refine zw_geti 89 rfl dX4_countRuns_86 fl_X4_65 (by first | assumption | exact zx_o0 | exact zx_o _ _ _ rfl) ?_
            rw [zu_k _ _ (by omega), c5]
            refine zw_icmp_le 107 92 rfl dX4_countRuns_89 (by decide) (by omega) (by omega) (fun h_89 => ?_) (fun h_89 => ?_)
            · first | (exfalso; omega) | exact L107 hk (1, s.2.1 + 1, σ (B + 72) k, 1) _ _ (by unfold aRuS; rw [if_neg ((Or.resolve_left hu (fun q => by omega)).2), if_pos (show s.2.2.2 < 1 by omega), if_pos (show s.2.2.2 < 1 by omega)]) ⟨fun b hb => by simp [zu_row, hb, c1 b hb], by simp [zu, c2], by simp [zu, c3], by simp [zu, c4], by simp [zu, c5]⟩ | exact L107 hk (1, s.2.1 + 1, s.2.2.1, s.2.2.2) _ _ (by unfold aRuS; rw [if_neg ((Or.resolve_left hu (fun q => by omega)).2), if_neg (show ¬ s.2.2.2 < 1 by omega), if_neg (show ¬ s.2.2.2 < 1 by omega)]) ⟨fun b hb => by simp [zu_row, hb, c1 b hb], by simp [zu, c2], by simp [zu, c3], by simp [zu, c4], by simp [zu, c5]⟩ | exact L107 hk (s.1 + 1, s.2.1, σ (B + 72) k, s.1 + 1) _ _ (by unfold aRuS; rw [if_pos ((Or.resolve_right hu (fun q => by omega)).2), if_pos (show s.2.2.2 < s.1 + 1 by omega), if_pos (show s.2.2.2 < s.1 + 1 by omega)]) ⟨fun b hb => by simp [zu_row, hb, c1 b hb], by simp [zu, c2], by simp [zu, c3], by simp [zu, c4], by simp [zu, c5]⟩ | exact L107 hk (s.1 + 1, s.2.1, s.2.2.1, s.2.2.2) _ _ (by unfold aRuS; rw [if_pos ((Or.resolve_right hu (fun q => by omega)).2), if_neg (show ¬ s.2.2.2 < s.1 + 1 by omega), if_neg (show ¬ s.2.2.2 < s.1 + 1 by omega)]) ⟨fun b hb => by simp [zu_row, hb, c1 b hb], by simp [zu, c2], by simp [zu, c3], by simp [zu, c4], by simp [zu, c5]⟩
            · refine zw_aload_n 93 rfl dX4_countRuns_92 rfl ?_
              refine zw_iload_n 94 rfl dX4_countRuns_93 rfl ?_
              refine zw_puti 97 rfl dX4_countRuns_94 fp_X4_65 (by first | assumption | exact zx_o0 | exact zx_o _ _ _ rfl) ?_
              refine zw_aload_n 98 rfl dX4_countRuns_97 rfl ?_
              refine zw_aload_n 99 rfl dX4_countRuns_98 rfl ?_
              refine zw_getr 102 rfl dX4_countRuns_99 fl_X4_11 (by first | assumption | exact zx_o0 | exact zx_o _ _ _ rfl) (by first | assumption | exact zx_f0 _ _ rfl | exact zx_f _ _ _ rfl) ?_
              refine zw_iload_n 103 rfl dX4_countRuns_102 rfl ?_
              refine zw_iald 104 rfl dX4_countRuns_103 (by first | assumption | exact zx_o0 | exact zx_o _ _ _ rfl) (by omega) (by omega) ?_
              rw [Int.toNat_natCast, zu_row _ _ (by omega), zu_row _ _ (by omega), e72]
              refine zw_puti 107 rfl dX4_countRuns_104 fp_X4_62 (by first | assumption | exact zx_o0 | exact zx_o _ _ _ rfl) ?_
              first | (exfalso; omega) | exact L107 hk (1, s.2.1 + 1, σ (B + 72) k, 1) _ _ (by unfold aRuS; rw [if_neg ((Or.resolve_left hu (fun q => by omega)).2), if_pos (show s.2.2.2 < 1 by omega), if_pos (show s.2.2.2 < 1 by omega)]) ⟨fun b hb => by simp [zu_row, hb, c1 b hb], by simp [zu, c2], by simp [zu, c3], by simp [zu, c4], by simp [zu, c5]⟩ | exact L107 hk (1, s.2.1 + 1, s.2.2.1, s.2.2.2) _ _ (by unfold aRuS; rw [if_neg ((Or.resolve_left hu (fun q => by omega)).2), if_neg (show ¬ s.2.2.2 < 1 by omega), if_neg (show ¬ s.2.2.2 < 1 by omega)]) ⟨fun b hb => by simp [zu_row, hb, c1 b hb], by simp [zu, c2], by simp [zu, c3], by simp [zu, c4], by simp [zu, c5]⟩ | exact L107 hk (s.1 + 1, s.2.1, σ (B + 72) k, s.1 + 1) _ _ (by unfold aRuS; rw [if_pos ((Or.resolve_right hu (fun q => by omega)).2), if_pos (show s.2.2.2 < s.1 + 1 by omega), if_pos (show s.2.2.2 < s.1 + 1 by omega)]) ⟨fun b hb => by simp [zu_row, hb, c1 b hb], by simp [zu, c2], by simp [zu, c3], by simp [zu, c4], by simp [zu, c5]⟩ | exact L107 hk (s.1 + 1, s.2.1, s.2.2.1, s.2.2.2) _ _ (by unfold aRuS; rw [if_pos ((Or.resolve_right hu (fun q => by omega)).2), if_neg (show ¬ s.2.2.2 < s.1 + 1 by omega), if_neg (show ¬ s.2.2.2 < s.1 + 1 by omega)]) ⟨fun b hb => by simp [zu_row, hb, c1 b hb], by simp [zu, c2], by simp [zu, c3], by simp [zu, c4], by simp [zu, c5]⟩
          · refine zw_iconst 76 rfl dX4_countRuns_75 ?_
            refine zw_goto 80 dX4_countRuns_76 (by decide) ?_
            refine zw_iadd 81 rfl dX4_countRuns_80 ?_
            refine zw_puti 84 rfl dX4_countRuns_81 fp_X4_59 (by first | assumption | exact zx_o0 | exact zx_o _ _ _ rfl) ?_
            refine zw_iload_n 85 rfl dX4_countRuns_84 rfl ?_
            refine zw_aload_n 86 rfl dX4_countRuns_85 rfl ?_
            refine zw_geti 89 rfl dX4_countRuns_86 fl_X4_65 (by first | assumption | exact zx_o0 | exact zx_o _ _ _ rfl) ?_
            rw [zu_k _ _ (by omega), c5]
            refine zw_icmp_le 107 92 rfl dX4_countRuns_89 (by decide) (by omega) (by omega) (fun h_89 => ?_) (fun h_89 => ?_)
            · first | (exfalso; omega) | exact L107 hk (1, s.2.1 + 1, σ (B + 72) k, 1) _ _ (by unfold aRuS; rw [if_neg ((Or.resolve_left hu (fun q => by omega)).2), if_pos (show s.2.2.2 < 1 by omega), if_pos (show s.2.2.2 < 1 by omega)]) ⟨fun b hb => by simp [zu_row, hb, c1 b hb], by simp [zu, c2], by simp [zu, c3], by simp [zu, c4], by simp [zu, c5]⟩ | exact L107 hk (1, s.2.1 + 1, s.2.2.1, s.2.2.2) _ _ (by unfold aRuS; rw [if_neg ((Or.resolve_left hu (fun q => by omega)).2), if_neg (show ¬ s.2.2.2 < 1 by omega), if_neg (show ¬ s.2.2.2 < 1 by omega)]) ⟨fun b hb => by simp [zu_row, hb, c1 b hb], by simp [zu, c2], by simp [zu, c3], by simp [zu, c4], by simp [zu, c5]⟩ | exact L107 hk (s.1 + 1, s.2.1, σ (B + 72) k, s.1 + 1) _ _ (by unfold aRuS; rw [if_pos ((Or.resolve_right hu (fun q => by omega)).2), if_pos (show s.2.2.2 < s.1 + 1 by omega), if_pos (show s.2.2.2 < s.1 + 1 by omega)]) ⟨fun b hb => by simp [zu_row, hb, c1 b hb], by simp [zu, c2], by simp [zu, c3], by simp [zu, c4], by simp [zu, c5]⟩ | exact L107 hk (s.1 + 1, s.2.1, s.2.2.1, s.2.2.2) _ _ (by unfold aRuS; rw [if_pos ((Or.resolve_right hu (fun q => by omega)).2), if_neg (show ¬ s.2.2.2 < s.1 + 1 by omega), if_neg (show ¬ s.2.2.2 < s.1 + 1 by omega)]) ⟨fun b hb => by simp [zu_row, hb, c1 b hb], by simp [zu, c2], by simp [zu, c3], by simp [zu, c4], by simp [zu, c5]⟩
            · refine zw_aload_n 93 rfl dX4_countRuns_92 rfl ?_
              refine zw_iload_n 94 rfl dX4_countRuns_93 rfl ?_
              refine zw_puti 97 rfl dX4_countRuns_94 fp_X4_65 (by first | assumption | exact zx_o0 | exact zx_o _ _ _ rfl) ?_
              refine zw_aload_n 98 rfl dX4_countRuns_97 rfl ?_
              refine zw_aload_n 99 rfl dX4_countRuns_98 rfl ?_
              refine zw_getr 102 rfl dX4_countRuns_99 fl_X4_11 (by first | assumption | exact zx_o0 | exact zx_o _ _ _ rfl) (by first | assumption | exact zx_f0 _ _ rfl | exact zx_f _ _ _ rfl) ?_
              refine zw_iload_n 103 rfl dX4_countRuns_102 rfl ?_
              refine zw_iald 104 rfl dX4_countRuns_103 (by first | assumption | exact zx_o0 | exact zx_o _ _ _ rfl) (by omega) (by omega) ?_
              rw [Int.toNat_natCast, zu_row _ _ (by omega), zu_row _ _ (by omega), e72]
              refine zw_puti 107 rfl dX4_countRuns_104 fp_X4_62 (by first | assumption | exact zx_o0 | exact zx_o _ _ _ rfl) ?_
              first | (exfalso; omega) | exact L107 hk (1, s.2.1 + 1, σ (B + 72) k, 1) _ _ (by unfold aRuS; rw [if_neg ((Or.resolve_left hu (fun q => by omega)).2), if_pos (show s.2.2.2 < 1 by omega), if_pos (show s.2.2.2 < 1 by omega)]) ⟨fun b hb => by simp [zu_row, hb, c1 b hb], by simp [zu, c2], by simp [zu, c3], by simp [zu, c4], by simp [zu, c5]⟩ | exact L107 hk (1, s.2.1 + 1, s.2.2.1, s.2.2.2) _ _ (by unfold aRuS; rw [if_neg ((Or.resolve_left hu (fun q => by omega)).2), if_neg (show ¬ s.2.2.2 < 1 by omega), if_neg (show ¬ s.2.2.2 < 1 by omega)]) ⟨fun b hb => by simp [zu_row, hb, c1 b hb], by simp [zu, c2], by simp [zu, c3], by simp [zu, c4], by simp [zu, c5]⟩ | exact L107 hk (s.1 + 1, s.2.1, σ (B + 72) k, s.1 + 1) _ _ (by unfold aRuS; rw [if_pos ((Or.resolve_right hu (fun q => by omega)).2), if_pos (show s.2.2.2 < s.1 + 1 by omega), if_pos (show s.2.2.2 < s.1 + 1 by omega)]) ⟨fun b hb => by simp [zu_row, hb, c1 b hb], by simp [zu, c2], by simp [zu, c3], by simp [zu, c4], by simp [zu, c5]⟩ | exact L107 hk (s.1 + 1, s.2.1, s.2.2.1, s.2.2.2) _ _ (by unfold aRuS; rw [if_pos ((Or.resolve_right hu (fun q => by omega)).2), if_neg (show ¬ s.2.2.2 < s.1 + 1 by omega), if_neg (show ¬ s.2.2.2 < s.1 + 1 by omega)]) ⟨fun b hb => by simp [zu_row, hb, c1 b hb], by simp [zu, c2], by simp [zu, c3], by simp [zu, c4], by simp [zu, c5]⟩
        · refine zw_iload_n 59 rfl dX4_countRuns_58 rfl ?_
          refine zw_iconst 60 rfl dX4_countRuns_59 ?_
          refine zw_iadd 61 rfl dX4_countRuns_60 ?_
          refine zw_goto 65 dX4_countRuns_61 (by decide) ?_
          refine zw_istore_n 66 rfl dX4_countRuns_65 (Nat.le_of_ble_eq_true rfl) rfl ?_
          refine zw_aload_n 67 rfl dX4_countRuns_66 rfl ?_
          refine zw_dup 68 rfl dX4_countRuns_67 rfl ?_
          refine zw_geti 71 rfl dX4_countRuns_68 fl_X4_59 (by first | assumption | exact zx_o0 | exact zx_o _ _ _ rfl) ?_
          rw [c3]
          refine zw_iload_n 72 rfl dX4_countRuns_71 rfl ?_
          refine zw_if_eq 79 75 rfl dX4_countRuns_72 (by decide) (by omega) (fun h_72 => ?_) (fun h_72 => ?_)
          · refine zw_iconst 80 rfl dX4_countRuns_79 ?_
            refine zw_iadd 81 rfl dX4_countRuns_80 ?_
            refine zw_puti 84 rfl dX4_countRuns_81 fp_X4_59 (by first | assumption | exact zx_o0 | exact zx_o _ _ _ rfl) ?_
            refine zw_iload_n 85 rfl dX4_countRuns_84 rfl ?_
            refine zw_aload_n 86 rfl dX4_countRuns_85 rfl ?_
            refine zw_geti 89 rfl dX4_countRuns_86 fl_X4_65 (by first | assumption | exact zx_o0 | exact zx_o _ _ _ rfl) ?_
            rw [zu_k _ _ (by omega), c5]
            refine zw_icmp_le 107 92 rfl dX4_countRuns_89 (by decide) (by omega) (by omega) (fun h_89 => ?_) (fun h_89 => ?_)
            · first | (exfalso; omega) | exact L107 hk (1, s.2.1 + 1, σ (B + 72) k, 1) _ _ (by unfold aRuS; rw [if_neg ((Or.resolve_left hu (fun q => by omega)).2), if_pos (show s.2.2.2 < 1 by omega), if_pos (show s.2.2.2 < 1 by omega)]) ⟨fun b hb => by simp [zu_row, hb, c1 b hb], by simp [zu, c2], by simp [zu, c3], by simp [zu, c4], by simp [zu, c5]⟩ | exact L107 hk (1, s.2.1 + 1, s.2.2.1, s.2.2.2) _ _ (by unfold aRuS; rw [if_neg ((Or.resolve_left hu (fun q => by omega)).2), if_neg (show ¬ s.2.2.2 < 1 by omega), if_neg (show ¬ s.2.2.2 < 1 by omega)]) ⟨fun b hb => by simp [zu_row, hb, c1 b hb], by simp [zu, c2], by simp [zu, c3], by simp [zu, c4], by simp [zu, c5]⟩ | exact L107 hk (s.1 + 1, s.2.1, σ (B + 72) k, s.1 + 1) _ _ (by unfold aRuS; rw [if_pos ((Or.resolve_right hu (fun q => by omega)).2), if_pos (show s.2.2.2 < s.1 + 1 by omega), if_pos (show s.2.2.2 < s.1 + 1 by omega)]) ⟨fun b hb => by simp [zu_row, hb, c1 b hb], by simp [zu, c2], by simp [zu, c3], by simp [zu, c4], by simp [zu, c5]⟩ | exact L107 hk (s.1 + 1, s.2.1, s.2.2.1, s.2.2.2) _ _ (by unfold aRuS; rw [if_pos ((Or.resolve_right hu (fun q => by omega)).2), if_neg (show ¬ s.2.2.2 < s.1 + 1 by omega), if_neg (show ¬ s.2.2.2 < s.1 + 1 by omega)]) ⟨fun b hb => by simp [zu_row, hb, c1 b hb], by simp [zu, c2], by simp [zu, c3], by simp [zu, c4], by simp [zu, c5]⟩
            · refine zw_aload_n 93 rfl dX4_countRuns_92 rfl ?_
              refine zw_iload_n 94 rfl dX4_countRuns_93 rfl ?_
              refine zw_puti 97 rfl dX4_countRuns_94 fp_X4_65 (by first | assumption | exact zx_o0 | exact zx_o _ _ _ rfl) ?_
              refine zw_aload_n 98 rfl dX4_countRuns_97 rfl ?_
              refine zw_aload_n 99 rfl dX4_countRuns_98 rfl ?_
              refine zw_getr 102 rfl dX4_countRuns_99 fl_X4_11 (by first | assumption | exact zx_o0 | exact zx_o _ _ _ rfl) (by first | assumption | exact zx_f0 _ _ rfl | exact zx_f _ _ _ rfl) ?_
              refine zw_iload_n 103 rfl dX4_countRuns_102 rfl ?_
              refine zw_iald 104 rfl dX4_countRuns_103 (by first | assumption | exact zx_o0 | exact zx_o _ _ _ rfl) (by omega) (by omega) ?_
              rw [Int.toNat_natCast, zu_row _ _ (by omega), zu_row _ _ (by omega), e72]
              refine zw_puti 107 rfl dX4_countRuns_104 fp_X4_62 (by first | assumption | exact zx_o0 | exact zx_o _ _ _ rfl) ?_
              first | (exfalso; omega) | exact L107 hk (1, s.2.1 + 1, σ (B + 72) k, 1) _ _ (by unfold aRuS; rw [if_neg ((Or.resolve_left hu (fun q => by omega)).2), if_pos (show s.2.2.2 < 1 by omega), if_pos (show s.2.2.2 < 1 by omega)]) ⟨fun b hb => by simp [zu_row, hb, c1 b hb], by simp [zu, c2], by simp [zu, c3], by simp [zu, c4], by simp [zu, c5]⟩ | exact L107 hk (1, s.2.1 + 1, s.2.2.1, s.2.2.2) _ _ (by unfold aRuS; rw [if_neg ((Or.resolve_left hu (fun q => by omega)).2), if_neg (show ¬ s.2.2.2 < 1 by omega), if_neg (show ¬ s.2.2.2 < 1 by omega)]) ⟨fun b hb => by simp [zu_row, hb, c1 b hb], by simp [zu, c2], by simp [zu, c3], by simp [zu, c4], by simp [zu, c5]⟩ | exact L107 hk (s.1 + 1, s.2.1, σ (B + 72) k, s.1 + 1) _ _ (by unfold aRuS; rw [if_pos ((Or.resolve_right hu (fun q => by omega)).2), if_pos (show s.2.2.2 < s.1 + 1 by omega), if_pos (show s.2.2.2 < s.1 + 1 by omega)]) ⟨fun b hb => by simp [zu_row, hb, c1 b hb], by simp [zu, c2], by simp [zu, c3], by simp [zu, c4], by simp [zu, c5]⟩ | exact L107 hk (s.1 + 1, s.2.1, s.2.2.1, s.2.2.2) _ _ (by unfold aRuS; rw [if_pos ((Or.resolve_right hu (fun q => by omega)).2), if_neg (show ¬ s.2.2.2 < s.1 + 1 by omega), if_neg (show ¬ s.2.2.2 < s.1 + 1 by omega)]) ⟨fun b hb => by simp [zu_row, hb, c1 b hb], by simp [zu, c2], by simp [zu, c3], by simp [zu, c4], by simp [zu, c5]⟩
          · refine zw_iconst 76 rfl dX4_countRuns_75 ?_
            refine zw_goto 80 dX4_countRuns_76 (by decide) ?_
            refine zw_iadd 81 rfl dX4_countRuns_80 ?_
            refine zw_puti 84 rfl dX4_countRuns_81 fp_X4_59 (by first | assumption | exact zx_o0 | exact zx_o _ _ _ rfl) ?_
            refine zw_iload_n 85 rfl dX4_countRuns_84 rfl ?_
            refine zw_aload_n 86 rfl dX4_countRuns_85 rfl ?_
            refine zw_geti 89 rfl dX4_countRuns_86 fl_X4_65 (by first | assumption | exact zx_o0 | exact zx_o _ _ _ rfl) ?_
            rw [zu_k _ _ (by omega), c5]
            refine zw_icmp_le 107 92 rfl dX4_countRuns_89 (by decide) (by omega) (by omega) (fun h_89 => ?_) (fun h_89 => ?_)
            · first | (exfalso; omega) | exact L107 hk (1, s.2.1 + 1, σ (B + 72) k, 1) _ _ (by unfold aRuS; rw [if_neg ((Or.resolve_left hu (fun q => by omega)).2), if_pos (show s.2.2.2 < 1 by omega), if_pos (show s.2.2.2 < 1 by omega)]) ⟨fun b hb => by simp [zu_row, hb, c1 b hb], by simp [zu, c2], by simp [zu, c3], by simp [zu, c4], by simp [zu, c5]⟩ | exact L107 hk (1, s.2.1 + 1, s.2.2.1, s.2.2.2) _ _ (by unfold aRuS; rw [if_neg ((Or.resolve_left hu (fun q => by omega)).2), if_neg (show ¬ s.2.2.2 < 1 by omega), if_neg (show ¬ s.2.2.2 < 1 by omega)]) ⟨fun b hb => by simp [zu_row, hb, c1 b hb], by simp [zu, c2], by simp [zu, c3], by simp [zu, c4], by simp [zu, c5]⟩ | exact L107 hk (s.1 + 1, s.2.1, σ (B + 72) k, s.1 + 1) _ _ (by unfold aRuS; rw [if_pos ((Or.resolve_right hu (fun q => by omega)).2), if_pos (show s.2.2.2 < s.1 + 1 by omega), if_pos (show s.2.2.2 < s.1 + 1 by omega)]) ⟨fun b hb => by simp [zu_row, hb, c1 b hb], by simp [zu, c2], by simp [zu, c3], by simp [zu, c4], by simp [zu, c5]⟩ | exact L107 hk (s.1 + 1, s.2.1, s.2.2.1, s.2.2.2) _ _ (by unfold aRuS; rw [if_pos ((Or.resolve_right hu (fun q => by omega)).2), if_neg (show ¬ s.2.2.2 < s.1 + 1 by omega), if_neg (show ¬ s.2.2.2 < s.1 + 1 by omega)]) ⟨fun b hb => by simp [zu_row, hb, c1 b hb], by simp [zu, c2], by simp [zu, c3], by simp [zu, c4], by simp [zu, c5]⟩
            · refine zw_aload_n 93 rfl dX4_countRuns_92 rfl ?_
              refine zw_iload_n 94 rfl dX4_countRuns_93 rfl ?_
              refine zw_puti 97 rfl dX4_countRuns_94 fp_X4_65 (by first | assumption | exact zx_o0 | exact zx_o _ _ _ rfl) ?_
              refine zw_aload_n 98 rfl dX4_countRuns_97 rfl ?_
              refine zw_aload_n 99 rfl dX4_countRuns_98 rfl ?_
              refine zw_getr 102 rfl dX4_countRuns_99 fl_X4_11 (by first | assumption | exact zx_o0 | exact zx_o _ _ _ rfl) (by first | assumption | exact zx_f0 _ _ rfl | exact zx_f _ _ _ rfl) ?_
              refine zw_iload_n 103 rfl dX4_countRuns_102 rfl ?_
              refine zw_iald 104 rfl dX4_countRuns_103 (by first | assumption | exact zx_o0 | exact zx_o _ _ _ rfl) (by omega) (by omega) ?_
              rw [Int.toNat_natCast, zu_row _ _ (by omega), zu_row _ _ (by omega), e72]
              refine zw_puti 107 rfl dX4_countRuns_104 fp_X4_62 (by first | assumption | exact zx_o0 | exact zx_o _ _ _ rfl) ?_
              first | (exfalso; omega) | exact L107 hk (1, s.2.1 + 1, σ (B + 72) k, 1) _ _ (by unfold aRuS; rw [if_neg ((Or.resolve_left hu (fun q => by omega)).2), if_pos (show s.2.2.2 < 1 by omega), if_pos (show s.2.2.2 < 1 by omega)]) ⟨fun b hb => by simp [zu_row, hb, c1 b hb], by simp [zu, c2], by simp [zu, c3], by simp [zu, c4], by simp [zu, c5]⟩ | exact L107 hk (1, s.2.1 + 1, s.2.2.1, s.2.2.2) _ _ (by unfold aRuS; rw [if_neg ((Or.resolve_left hu (fun q => by omega)).2), if_neg (show ¬ s.2.2.2 < 1 by omega), if_neg (show ¬ s.2.2.2 < 1 by omega)]) ⟨fun b hb => by simp [zu_row, hb, c1 b hb], by simp [zu, c2], by simp [zu, c3], by simp [zu, c4], by simp [zu, c5]⟩ | exact L107 hk (s.1 + 1, s.2.1, σ (B + 72) k, s.1 + 1) _ _ (by unfold aRuS; rw [if_pos ((Or.resolve_right hu (fun q => by omega)).2), if_pos (show s.2.2.2 < s.1 + 1 by omega), if_pos (show s.2.2.2 < s.1 + 1 by omega)]) ⟨fun b hb => by simp [zu_row, hb, c1 b hb], by simp [zu, c2], by simp [zu, c3], by simp [zu, c4], by simp [zu, c5]⟩ | exact L107 hk (s.1 + 1, s.2.1, s.2.2.1, s.2.2.2) _ _ (by unfold aRuS; rw [if_pos ((Or.resolve_right hu (fun q => by omega)).2), if_neg (show ¬ s.2.2.2 < s.1 + 1 by omega), if_neg (show ¬ s.2.2.2 < s.1 + 1 by omega)]) ⟨fun b hb => by simp [zu_row, hb, c1 b hb], by simp [zu, c2], by simp [zu, c3], by simp [zu, c4], by simp [zu, c5]⟩
      have hrk := hr k
      have hrk1 := hr (k - 1)
      refine zw_iload_n 20 rfl dX4_countRuns_19 rfl ?_
      refine zw_aload_n 21 rfl dX4_countRuns_20 rfl ?_
      refine zw_geti 24 rfl dX4_countRuns_21 fl_X4_15 (by first | assumption | exact zx_o0 | exact zx_o _ _ _ rfl) ?_
      rw [c2]
      refine zw_icmp_ge 113 27 rfl dX4_countRuns_24 (by decide) (by omega) (by omega) (fun h_24 => ?_) (fun h_24 => ?_)
      · exact zw_vret (st := []) dX4_countRuns_113 rfl ⟨rfl, _, rfl, by rw [show N = k by omega, ← hs]; rw [show N = k by omega] at hc; exact hc⟩
      · refine zw_iload_n 28 rfl dX4_countRuns_27 rfl ?_
        refine zw_if_le 52 31 rfl dX4_countRuns_28 (by decide) (by omega) (fun h_28 => ?_) (fun h_28 => ?_)
        · refine zw_iconst 53 rfl dX4_countRuns_52 ?_
          first | exact L53 (by omega) _ (Or.inl ⟨rfl, by omega, h_45⟩) | exact L53 (by omega) _ (Or.inr ⟨rfl, fun q => h_45 q.2⟩) | exact L53 (by omega) _ (Or.inr ⟨rfl, fun q => by omega⟩)
        · refine zw_aload_n 32 rfl dX4_countRuns_31 rfl ?_
          refine zw_getr 35 rfl dX4_countRuns_32 fl_X4_11 (by first | assumption | exact zx_o0 | exact zx_o _ _ _ rfl) (by first | assumption | exact zx_f0 _ _ rfl | exact zx_f _ _ _ rfl) ?_
          refine zw_iload_n 36 rfl dX4_countRuns_35 rfl ?_
          refine zw_iald 37 rfl dX4_countRuns_36 (by first | assumption | exact zx_o0 | exact zx_o _ _ _ rfl) (by omega) (by omega) ?_
          refine zw_aload_n 38 rfl dX4_countRuns_37 rfl ?_
          refine zw_getr 41 rfl dX4_countRuns_38 fl_X4_11 (by first | assumption | exact zx_o0 | exact zx_o _ _ _ rfl) (by first | assumption | exact zx_f0 _ _ rfl | exact zx_f _ _ _ rfl) ?_
          refine zw_iload_n 42 rfl dX4_countRuns_41 rfl ?_
          refine zw_iconst 43 rfl dX4_countRuns_42 ?_
          refine zw_isub 44 rfl dX4_countRuns_43 ?_
          refine zw_iald 45 rfl dX4_countRuns_44 (by first | assumption | exact zx_o0 | exact zx_o _ _ _ rfl) (by omega) (by omega) ?_
          rw [e72, Int.toNat_natCast, show ((k : Int) - 1).toNat = k - 1 by omega]
          refine zw_icmp_ne 52 48 rfl dX4_countRuns_45 (by decide) (by omega) (by omega) (fun h_45 => ?_) (fun h_45 => ?_)
          · refine zw_iconst 53 rfl dX4_countRuns_52 ?_
            first | exact L53 (by omega) _ (Or.inl ⟨rfl, by omega, h_45⟩) | exact L53 (by omega) _ (Or.inr ⟨rfl, fun q => h_45 q.2⟩) | exact L53 (by omega) _ (Or.inr ⟨rfl, fun q => by omega⟩)
          · refine zw_iconst 49 rfl dX4_countRuns_48 ?_
            refine zw_goto 53 dX4_countRuns_49 (by decide) ?_
            first | exact L53 (by omega) _ (Or.inl ⟨rfl, by omega, h_45⟩) | exact L53 (by omega) _ (Or.inr ⟨rfl, fun q => h_45 q.2⟩) | exact L53 (by omega) _ (Or.inr ⟨rfl, fun q => by omega⟩)
  refine zw_aload_n 1 rfl dX4_countRuns_0 rfl ?_
  refine zw_iconst 2 rfl dX4_countRuns_1 ?_
  refine zw_puti 5 rfl dX4_countRuns_2 fp_X4_59 (by first | assumption | exact zx_o0 | exact zx_o _ _ _ rfl) ?_
  refine zw_aload_n 6 rfl dX4_countRuns_5 rfl ?_
  refine zw_iconst 7 rfl dX4_countRuns_6 ?_
  refine zw_puti 10 rfl dX4_countRuns_7 fp_X4_62 (by first | assumption | exact zx_o0 | exact zx_o _ _ _ rfl) ?_
  refine zw_aload_n 11 rfl dX4_countRuns_10 rfl ?_
  refine zw_iconst 12 rfl dX4_countRuns_11 ?_
  refine zw_puti 15 rfl dX4_countRuns_12 fp_X4_65 (by first | assumption | exact zx_o0 | exact zx_o _ _ _ rfl) ?_
  refine zw_iconst 16 rfl dX4_countRuns_15 ?_
  refine zw_istore_n 17 rfl dX4_countRuns_16 (Nat.le_of_ble_eq_true rfl) rfl ?_
  refine zw_iconst 18 rfl dX4_countRuns_17 ?_
  refine zw_istore_n 19 rfl dX4_countRuns_18 (Nat.le_of_ble_eq_true rfl) rfl ?_
  exact loop (N + 1) 0 (0, 0, 0, 0) _ (by omega) (by omega) rfl ⟨fun b hb => by simp [zu_row, hb], by simp [zu, hm], by simp [zu], by simp [zu], by simp [zu]⟩
