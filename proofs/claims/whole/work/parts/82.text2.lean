def aTxR (A : zA) (n : Int) : Int × Int × zRd := zRun (fun i => (aT A).getD i 0) n.toNat 701 (0, 0, [], fun _ => (0, 0, fun _ _ => 0)) 0
def sp_text (A : zA) (n : Int) : Int × zA := if 0 ≤ n ∧ n ≤ (aT A).length then (if (aTxR A n).1 = 0 then ((aTxR A n).2.2.2.2.1.length, (aTk (aTxR A n).2.2, [], [], (0, -1, 0), (aTxR A n).2.2.2.2.1, none, aI A)) else (-1, (A.1, A.2.1, [], (4, (aTxR A n).2.1, (aTxR A n).1), A.2.2.2.2))) else (-1, aSet A 2)
theorem xrT_nil {B : Nat} {σ : zSt} (h : σ (B + 29) 1 = 0) : xrT B σ [] := ⟨h, by simp, fun i hi => by simp at hi⟩
theorem xTxt {B n : Nat} {σ1 σ2 : zSt} {r : zRd} {u v w : Int} (hr : xRd B σ1 n r σ2) : xRd B (zu (zu (zu (zu σ2 B 15 u) B 16 v) (B + 29) 1 0) B 17 w) n r (zu (zu (zu (zu σ2 B 15 u) B 16 v) (B + 29) 1 0) B 17 w) := by
  obtain ⟨g0, g1, g2, g3, g4, g5, g6, g7, g8⟩ := hr
  have e : ∀ b, b ≠ B → b ≠ B + 29 → zu (zu (zu (zu σ2 B 15 u) B 16 v) (B + 29) 1 0) B 17 w b = σ2 b := fun b q1 q2 => by rw [zu_row _ _ q1, zu_row _ _ q2, zu_row _ _ q1, zu_row _ _ q1]
  refine ⟨fun b hb => rfl, rfl, by simp [zu]; exact g2, ⟨by simp [zu]; exact g3.1, g3.2⟩, by rw [e _ (by omega) (by omega)]; exact g4, ?_, fun p hp hq => ?_, g7, g8⟩
  · unfold xNm; rw [e _ (by omega) (by omega), e _ (by omega) (by omega), e _ (by omega) (by omega)]; exact g5
  · have t := g6 p hp hq
    exact ⟨t.1.c (e _ (by simp only [zra]; omega) (by simp only [zra]; omega)) (e _ (by simp only [zra]; omega) (by simp only [zra]; omega)), t.2⟩
theorem xTxF {B : Nat} {σ σ2 τ : zSt} {A : zA} {u v : Int} (h : zxR B σ τ A) (f1 : ∀ b, (b < B + 29 ∨ b = B + 30 ∨ B + 44 ≤ b) → σ2 b = zu σ B 17 0 b) : zxR B (zu (zu (zu (zu σ2 B 15 u) B 16 v) (B + 29) 1 0) B 17 4) τ (A.1, A.2.1, [], (4, v, u), A.2.2.2.2) := by
  obtain ⟨a1, a2, a3, a4, a5, a6, a7⟩ := h
  have e : ∀ b, b ≠ B → b ≠ B + 29 → (b < B + 29 ∨ b = B + 30 ∨ B + 44 ≤ b) → zu (zu (zu (zu σ2 B 15 u) B 16 v) (B + 29) 1 0) B 17 4 b = σ b := fun b q1 q2 q3 => by rw [zu_row _ _ q1, zu_row _ _ q2, zu_row _ _ q1, zu_row _ _ q1, f1 b q3, zu_row _ _ q1]
  have e14 : zu (zu (zu (zu σ2 B 15 u) B 16 v) (B + 29) 1 0) B 17 4 B 14 = σ B 14 := by
    rw [zu_k _ _ (by omega), zu_row _ _ (by omega), zu_k _ _ (by omega), zu_k _ _ (by omega), f1 B (by omega), zu_k _ _ (by omega)]
  refine ⟨a1.c (fun b h1 h2 => e b (by omega) (by omega) (by omega)), a2.c (fun b h1 h2 => e b (by omega) (by omega) (by omega)), xrT_nil (by simp [zu]), ⟨zu_eq _ _ _ _, ?_, ?_, (show (-2147483648 : Int) ≤ 4 ∧ (4 : Int) ≤ 2147483647 by omega)⟩, a5.c (fun b h1 h2 => e b (by omega) (by omega) (by omega)), a6.c (by rw [e _ (by omega) (by omega) (by omega)]) (by rw [e _ (by omega) (by omega) (by omega)]) (fun b h1 h2 => e b (by omega) (by omega) (by omega)) rfl, ?_⟩
  · show v = if (4 : Int) = 4 then _ else _
    rw [if_pos rfl]; simp [zu]
  · show _ = u
    simp [zu]
  · unfold xrI at *
    rw [e14, e (B + 73) (by omega) (by omega) (by omega)]
    exact a7
theorem xTxG {B : Nat} {σ σ2 σ4 τ : zSt} {A : zA} {r : zRd} {u v : Int} (h : zxR B σ τ A) (h0 : u = 0) (f1 : ∀ b, (b < B + 29 ∨ b = B + 30 ∨ B + 44 ≤ b) → σ2 b = zu σ B 17 0 b) (q1 : ∀ b, (b < B + 44 ∨ (B + 54 < b ∧ b < B + 74)) → b ≠ B + 6 → σ4 b = zu (zu (zu (zu σ2 B 15 u) B 16 v) (B + 29) 1 0) B 17 0 b) (q2 : ∀ k, k ≠ 3 → σ4 (B + 6) k = zu (zu (zu (zu σ2 B 15 u) B 16 v) (B + 29) 1 0) B 17 0 (B + 6) k) (q3 : σ4 (B + 6) 3 = 0) (q4 : σ4 (B + 47) 5 = 0) (q5 : xNm σ4 (B + 44) r.2.2.1) (q6 : xrP B σ4 (aTk r)) : zxR B σ4 τ (aTk r, [], [], (0, -1, 0), r.2.2.1, none, aI A) := by
  obtain ⟨a1, a2, a3, a4, a5, a6, a7⟩ := h
  refine ⟨q6, ⟨?_, q3, Nat.zero_le 10, trivial⟩, xrT_nil ?_, ⟨?_, rfl, ?_, (show (-2147483648 : Int) ≤ 0 ∧ (0 : Int) ≤ 2147483647 by omega)⟩, q5, q4, ?_⟩
  · rw [q2 2 (by omega), zu_row _ _ (by omega), zu_row _ _ (by omega), zu_row _ _ (by omega), zu_row _ _ (by omega), f1 _ (by omega), zu_row _ _ (by omega)]
    exact a2.1
  · rw [q1 _ (by omega) (by omega)]; simp [zu]
  · rw [q1 _ (by omega) (by omega)]; simp [zu]
  · rw [q1 _ (by omega) (by omega)]; simp [zu, h0]
  · unfold xrI at *
    rw [q1 B (by omega) (by omega), q1 (B + 73) (by omega) (by omega), zu_k _ _ (by omega), zu_row _ _ (by omega), zu_k _ _ (by omega), zu_k _ _ (by omega), f1 B (by omega), zu_k _ _ (by omega), zu_row _ _ (by omega), zu_row _ _ (by omega), zu_row _ _ (by omega), zu_row _ _ (by omega), f1 _ (by omega), zu_row _ _ (by omega)]
    exact a7
theorem X_text {G : zG} {B : Nat} {σ τ : zSt} {A : zA} {n : Int} (h : zxR B σ τ A) (hn : -2147483648 ≤ n ∧ n ≤ 2147483647) : zC G M_X10_text [.ref B, vi n] (zxS B, σ, τ) (xQ B (sp_text A n)) := by
  obtain ⟨a1, a2, a3, a4, a5, a6, a7⟩ := id h
  have t1 := a3.1
  have t2 := a3.2.1
  refine zC_of 0 rfl (Nat.le_of_ble_eq_true rfl) ?_
  have body : (0 ≤ n ∧ n ≤ (aT A).length) → zW G M_X10_text (xQ B (sp_text A n)) 29 [some (.ref B), some (vi n)] [] (zxS B, zu σ B 17 0, τ) := by
    intro hn
    unfold sp_text
    rw [if_pos hn]
    obtain ⟨m, hm⟩ : ∃ m : Nat, n = m := ⟨n.toNat, by omega⟩
    have e30 : zu σ B 17 0 (B + 30) = σ (B + 30) := zu_row _ _ (by omega)
    have hfo := c_faultOf (G := G) (B := B) (n := m) (σ1 := zu σ B 17 0) (τ := τ) (m := (aT A).length) (by rw [zu_row _ _ (by omega)]; exact t1) (by omega) (by omega) (fun i hi => by rw [e30, (a3.2.2 i (by omega)).1]; exact (a3.2.2 i (by omega)).2)
    have hRe : zRun (zu σ B 17 0 (B + 30)) m 701 (0, 0, [], fun _ => (0, 0, fun _ _ => 0)) 0 = aTxR A n := by
      unfold aTxR
      rw [hm, Int.toNat_natCast]
      exact zRun_c (fun i hi => by rw [e30]; exact (a3.2.2 i (by omega)).1) _ _ _ (Nat.zero_le _)
    rw [hRe, ← hm] at hfo
    have hRr : 0 ≤ (aTxR A n).1 ∧ (aTxR A n).1 ≤ 4 := zRun_r _ _ _
    have hR5 : (aTxR A n).1 = 0 → (aTxR A n).2.2.1 = 5 := zRun_5 _ _ _ (Nat.zero_le _) (Or.inr (by show n.toNat - 0 + 1 ≤ 701; omega))
    generalize aTxR A n = R at *
    have L85 : ∀ σ2 : zSt, (∀ b, (b < B + 29 ∨ b = B + 30 ∨ B + 44 ≤ b) → σ2 b = zu σ B 17 0 b) → (R.1 = 0 → xRd B (zu σ B 17 0) m R.2.2 σ2) → R.1 = 0 → zW G M_X10_text (xQ B (if R.1 = 0 then ((R.2.2.2.2.1.length : Int), (aTk R.2.2, [], [], (0, -1, 0), R.2.2.2.2.1, none, aI A)) else (-1, (A.1, A.2.1, [], (4, R.2.1, R.1), A.2.2.2.2)))) 85 [some (.ref B), some (vi n)] [] (zxS B, zu (zu (zu (zu σ2 B 15 R.1) B 16 R.2.1) (B + 29) 1 0) B 17 0, τ) := by
      intro σ2 f1 f3 h0
      rw [if_pos h0]
      refine zw_aload_n 86 rfl dX10_text_85 rfl ?_
      refine zw_cVr0 89 rfl dX10_text_86 kX10_text_122 (Nat.le_of_ble_eq_true rfl) (by first | assumption | exact zx_o0 | exact zx_o _ _ _ rfl) (c_takeOver (xTxt (f3 h0)) (hR5 h0)) ?_
      rintro _ _ ⟨rfl, σ4, rfl, q1, q2, q3, q4, q5, q6⟩
      refine zw_aload_n 90 rfl dX10_text_89 rfl ?_
      refine zw_getr 93 rfl dX10_text_90 fl_X10_47 (by first | assumption | exact zx_o0 | exact zx_o _ _ _ rfl) (by first | assumption | exact zx_f0 _ _ rfl | exact zx_f _ _ _ rfl) ?_
      refine zw_geti 96 rfl dX10_text_93 fl_X10_125 (by first | assumption | exact zx_o0 | exact zx_o _ _ _ rfl) ?_
      exact zw_iret (st := []) dX10_text_96 rfl ⟨by rw [q5.1], _, _, rfl, xTxG h h0 f1 q1 q2 q3 q4 q5 q6⟩
    refine zw_aload_n 30 rfl dX10_text_29 rfl ?_
    refine zw_aload_n 31 rfl dX10_text_30 rfl ?_
    refine zw_getr 34 rfl dX10_text_31 fl_X10_40 (by first | assumption | exact zx_o0 | exact zx_o _ _ _ rfl) (by first | assumption | exact zx_f0 _ _ rfl | exact zx_f _ _ _ rfl) ?_
    refine zw_aload_n 35 rfl dX10_text_34 rfl ?_
    refine zw_getr 38 rfl dX10_text_35 fl_X10_33 (by first | assumption | exact zx_o0 | exact zx_o _ _ _ rfl) (by first | assumption | exact zx_f0 _ _ rfl | exact zx_f _ _ _ rfl) ?_
    refine zw_iload_n 39 rfl dX10_text_38 rfl ?_
    refine zw_cVr2 42 rfl dX10_text_39 kX10_text_109 (Nat.le_of_ble_eq_true rfl) (by first | assumption | exact zx_o0 | exact zx_o _ _ _ rfl) hfo ?_
    rintro _ _ ⟨σ2, rfl, rfl, f1, f2, f3⟩
    refine zw_puti 45 rfl dX10_text_42 fp_X10_113 (by first | assumption | exact zx_o0 | exact zx_o _ _ _ rfl) ?_
    refine zw_aload_n 46 rfl dX10_text_45 rfl ?_
    refine zw_aload_n 47 rfl dX10_text_46 rfl ?_
    refine zw_getr 50 rfl dX10_text_47 fl_X10_33 (by first | assumption | exact zx_o0 | exact zx_o _ _ _ rfl) (by first | assumption | exact zx_f0 _ _ rfl | exact zx_f _ _ _ rfl) ?_
    refine zw_geti 53 rfl dX10_text_50 fl_X10_116 (by first | assumption | exact zx_o0 | exact zx_o _ _ _ rfl) ?_
    rw [zu_row _ _ (by omega), f2]
    refine zw_puti 56 rfl dX10_text_53 fp_X10_119 (by first | assumption | exact zx_o0 | exact zx_o _ _ _ rfl) ?_
    refine zw_aload_n 57 rfl dX10_text_56 rfl ?_
    refine zw_getr 60 rfl dX10_text_57 fl_X10_33 (by first | assumption | exact zx_o0 | exact zx_o _ _ _ rfl) (by first | assumption | exact zx_f0 _ _ rfl | exact zx_f _ _ _ rfl) ?_
    refine zw_iconst 61 rfl dX10_text_60 ?_
    refine zw_puti 64 rfl dX10_text_61 fp_X10_93 (by first | assumption | exact zx_o0 | exact zx_o _ _ _ rfl) ?_
    refine zw_aload_n 65 rfl dX10_text_64 rfl ?_
    refine zw_aload_n 66 rfl dX10_text_65 rfl ?_
    refine zw_geti 69 rfl dX10_text_66 fl_X10_113 (by first | assumption | exact zx_o0 | exact zx_o _ _ _ rfl) ?_
    rw [zu_row _ _ (by omega), zu_k _ _ (by omega), zu_eq]
    refine zw_if_ne 76 72 rfl dX10_text_69 (by decide) (by omega) (fun h_69 => ?_) (fun h_69 => ?_)
    · refine zw_iconst 77 rfl dX10_text_76 ?_
      refine zw_cVi1 80 rfl dX10_text_77 kX10_text_105 (Nat.le_of_ble_eq_true rfl) (by first | assumption | exact zx_o0 | exact zx_o _ _ _ rfl) (c_refused (by omega)) ?_
      refine zw_if_eqB 85 83 rfl dX10_text_80 (by decide) (fun h_80 => ?_) (fun h_80 => ?_)
      · first | exact L85 σ2 f1 f3 h_69 | exact absurd (show (4 : Int) ≠ 0 by omega) h_80
      · refine zw_iconst 84 rfl dX10_text_83 ?_
        first | exact absurd rfl h_80 | (rw [if_neg h_69]; exact zw_iret (st := []) dX10_text_84 rfl ⟨rfl, _, _, rfl, xTxF h f1⟩)
    · refine zw_iconst 73 rfl dX10_text_72 ?_
      refine zw_goto 77 dX10_text_73 (by decide) ?_
      refine zw_cVi1 80 rfl dX10_text_77 kX10_text_105 (Nat.le_of_ble_eq_true rfl) (by first | assumption | exact zx_o0 | exact zx_o _ _ _ rfl) (c_refused (by omega)) ?_
      refine zw_if_eqB 85 83 rfl dX10_text_80 (by decide) (fun h_80 => ?_) (fun h_80 => ?_)
      · first | exact L85 σ2 f1 f3 h_69 | exact absurd (show (4 : Int) ≠ 0 by omega) h_80
      · refine zw_iconst 84 rfl dX10_text_83 ?_
        first | exact absurd rfl h_80 | (rw [if_neg h_69]; exact zw_iret (st := []) dX10_text_84 rfl ⟨rfl, _, _, rfl, xTxF h f1⟩)
  have J : ∀ v : Int, v = (if 0 ≤ n ∧ n ≤ (aT A).length then 0 else 2) → zW G M_X10_text (xQ B (sp_text A n)) 21 [some (.ref B), some (vi n)] [vi v, .ref B] (zxS B, σ, τ) := by
    intro v hv
    by_cases hc : 0 ≤ n ∧ n ≤ (aT A).length
    · rw [if_pos hc] at hv
      subst hv
      refine zw_cVi1 24 rfl dX10_text_21 kX10_text_105 (Nat.le_of_ble_eq_true rfl) (by first | assumption | exact zx_o0 | exact zx_o _ _ _ rfl) (c_refused (by omega)) ?_
      refine zw_if_eqB 29 27 rfl dX10_text_24 (by decide) (fun h_24 => ?_) (fun h_24 => ?_)
      · exact body hc
      · exact absurd rfl h_24
    · rw [if_neg hc] at hv
      subst hv
      refine zw_cVi1 24 rfl dX10_text_21 kX10_text_105 (Nat.le_of_ble_eq_true rfl) (by first | assumption | exact zx_o0 | exact zx_o _ _ _ rfl) (c_refused (by omega)) ?_
      refine zw_if_eqB 29 27 rfl dX10_text_24 (by decide) (fun h_24 => ?_) (fun h_24 => ?_)
      · exact absurd (show (2 : Int) ≠ 0 by omega) h_24
      · refine zw_iconst 28 rfl dX10_text_27 ?_
        exact zw_iret (st := []) dX10_text_28 rfl ⟨by unfold sp_text; rw [if_neg hc], _, _, rfl, by unfold sp_text; rw [if_neg hc]; exact h.set xScr.z rfl (zu_eq _ _ _ _) (by omega) (by omega)⟩
  refine zw_aload_n 1 rfl dX10_text_0 rfl ?_
  refine zw_iload_n 2 rfl dX10_text_1 rfl ?_
  refine zw_iconst 3 rfl dX10_text_2 ?_
  refine zw_aload_n 4 rfl dX10_text_3 rfl ?_
  refine zw_getr 7 rfl dX10_text_4 fl_X10_33 (by first | assumption | exact zx_o0 | exact zx_o _ _ _ rfl) (by first | assumption | exact zx_f0 _ _ rfl | exact zx_f _ _ _ rfl) ?_
  refine zw_geti 10 rfl dX10_text_7 fl_X10_93 (by first | assumption | exact zx_o0 | exact zx_o _ _ _ rfl) ?_
  rw [t1]
  refine zw_cSi3 13 rfl dX10_text_10 kX10_text_101 (Nat.le_of_ble_eq_true rfl) (c_within (by omega) (by omega) (by omega)) ?_
  refine zw_if_eqB 20 16 rfl dX10_text_13 (by decide) (fun h_13 => ?_) (fun h_13 => ?_)
  · refine zw_iconst 21 rfl dX10_text_20 ?_
    exact J _ (by simp only [if_neg h_13])
  · refine zw_iconst 17 rfl dX10_text_16 ?_
    refine zw_goto 21 dX10_text_17 (by decide) ?_
    exact J _ (by simp only [if_pos h_13])
