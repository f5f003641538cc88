theorem c_takeMark {G : zG} {B n : Nat} {σ σ1 τ : zSt} {r : zRd} {K : zTok} (hr : xRd B σ1 n (r.1, K.2.1, r.2.2.1, r.2.2.2) σ) (hs : xTS B σ K.1 K.2.2.2) (h4 : σ (B + 29) 4 = K.2.2.1) (hkd : (0 ≤ K.2.2.1 ∧ K.2.2.1 ≤ 4) ∧ (K.2.2.1 = 1 → 1 ≤ K.2.2.2 ∧ K.2.2.2 ≤ 16)) (hw : r.1 = 4) : zC G M_X9_takeMark [.ref (B + 31), .ref (B + 29)] (zxS B, σ, τ) (xTQ B σ1 σ τ n (zStep (σ (B + 30)) r K)) := by
  obtain ⟨g0, g1, g2, g3, g4, g5, g6, g7, g8⟩ := id hr
  have g5a := g5.1
  have g5b := g5.2.1
  dsimp only at g1 g2 g3 g4 g5 g6 g7 g8 g5a g5b
  refine zC_of 0 rfl (Nat.le_of_ble_eq_true rfl) ?_
  unfold zStep
  rw [if_neg (by omega), if_neg (by omega), if_pos hw]
  refine zw_aload_n 1 rfl dX9_takeMark_0 rfl ?_
  refine zw_geti 4 rfl dX9_takeMark_1 fl_X9_61 (by first | assumption | exact zx_o0 | exact zx_o _ _ _ rfl) ?_
  rw [h4]
  rcases (show K.2.2.1 = 0 ∨ K.2.2.1 = 1 ∨ K.2.2.1 = 2 ∨ K.2.2.1 = 3 ∨ (K.2.2.1 < 0 ∨ 3 < K.2.2.1) by omega) with h_4 | h_4 | h_4 | h_4 | h_4
  · refine zw_tableIn (off := 46) 50 dX9_takeMark_4 (by omega) (by omega) (by omega) (by rw [h_4]; rfl) (by decide) ?_
    rw [if_neg (by omega), if_neg (by omega), if_pos h_4]
    refine zw_aload_n 51 rfl dX9_takeMark_50 rfl ?_
    refine zw_iconst 52 rfl dX9_takeMark_51 ?_
    refine zw_puti 55 rfl dX9_takeMark_52 fp_X9_29 (by first | assumption | exact zx_o0 | exact zx_o _ _ _ rfl) ?_
    refine zw_iconst 56 rfl dX9_takeMark_55 ?_
    refine zw_iret (st := []) dX9_takeMark_56 rfl ⟨_, rfl, rfl, fun b hb => by rw [zu_row _ _ (by omega)], fun q => ⟨fun b hb => by rw [zu_row _ _ (by omega)]; exact g0 b hb, by rw [zu_row _ _ (by omega)]; exact g1, by rw [zu_row _ _ (by omega)]; exact g2, ⟨by rw [zu_row _ _ (by omega)]; exact g3.1, g3.2⟩, zu_eq _ _ _ _, ?_, fun p hp hq => ?_, by show (0 : Int) ≤ 5 ∧ (5 : Int) ≤ 5; omega, fun z => absurd (show (5 : Int) = 1 from z) (by omega), fun _ => g8.2 (by omega)⟩⟩
    · unfold xNm; rw [zu_row _ _ (by omega), zu_row _ _ (by omega), zu_row _ _ (by omega)]; exact g5
    · have t := g6 p hp (fun z => by omega)
      exact ⟨t.1.c (by rw [zu_row _ _ (by simp only [zra]; omega)]) (by rw [zu_row _ _ (by simp only [zra]; omega)]), t.2⟩
  · refine zw_tableIn (off := 53) 57 dX9_takeMark_4 (by omega) (by omega) (by omega) (by rw [h_4]; rfl) (by decide) ?_
    rw [if_neg (by omega), if_neg (by omega), if_neg (by omega)]
    refine zw_iconst 58 rfl dX9_takeMark_57 ?_
    exact zw_iret (st := []) dX9_takeMark_58 rfl ⟨_, rfl, rfl, fun _ _ => rfl, fun q => by omega⟩
  · refine zw_tableIn (off := 32) 36 dX9_takeMark_4 (by omega) (by omega) (by omega) (by rw [h_4]; rfl) (by decide) ?_
    rw [if_pos h_4]
    refine zw_aload_n 37 rfl dX9_takeMark_36 rfl ?_
    refine zw_iconst 38 rfl dX9_takeMark_37 ?_
    refine zw_puti 41 rfl dX9_takeMark_38 fp_X9_29 (by first | assumption | exact zx_o0 | exact zx_o _ _ _ rfl) ?_
    refine zw_iconst 42 rfl dX9_takeMark_41 ?_
    refine zw_iret (st := []) dX9_takeMark_42 rfl ⟨_, rfl, rfl, fun b hb => by rw [zu_row _ _ (by omega)], fun q => ⟨fun b hb => by rw [zu_row _ _ (by omega)]; exact g0 b hb, by rw [zu_row _ _ (by omega)]; exact g1, by rw [zu_row _ _ (by omega)]; exact g2, ⟨by rw [zu_row _ _ (by omega)]; exact g3.1, g3.2⟩, zu_eq _ _ _ _, ?_, fun p hp hq => ?_, by show (0 : Int) ≤ 3 ∧ (3 : Int) ≤ 5; omega, fun z => absurd (show (3 : Int) = 1 from z) (by omega), fun _ => g8.2 (by omega)⟩⟩
    · unfold xNm; rw [zu_row _ _ (by omega), zu_row _ _ (by omega), zu_row _ _ (by omega)]; exact g5
    · have t := g6 p hp (fun z => by omega)
      exact ⟨t.1.c (by rw [zu_row _ _ (by simp only [zra]; omega)]) (by rw [zu_row _ _ (by simp only [zra]; omega)]), t.2⟩
  · refine zw_tableIn (off := 39) 43 dX9_takeMark_4 (by omega) (by omega) (by omega) (by rw [h_4]; rfl) (by decide) ?_
    rw [if_neg (by omega), if_pos h_4]
    refine zw_aload_n 44 rfl dX9_takeMark_43 rfl ?_
    refine zw_iconst 45 rfl dX9_takeMark_44 ?_
    refine zw_puti 48 rfl dX9_takeMark_45 fp_X9_29 (by first | assumption | exact zx_o0 | exact zx_o _ _ _ rfl) ?_
    refine zw_iconst 49 rfl dX9_takeMark_48 ?_
    refine zw_iret (st := []) dX9_takeMark_49 rfl ⟨_, rfl, rfl, fun b hb => by rw [zu_row _ _ (by omega)], fun q => ⟨fun b hb => by rw [zu_row _ _ (by omega)]; exact g0 b hb, by rw [zu_row _ _ (by omega)]; exact g1, by rw [zu_row _ _ (by omega)]; exact g2, ⟨by rw [zu_row _ _ (by omega)]; exact g3.1, g3.2⟩, zu_eq _ _ _ _, ?_, fun p hp hq => ?_, by show (0 : Int) ≤ 0 ∧ (0 : Int) ≤ 5; omega, fun z => absurd (show (0 : Int) = 1 from z) (by omega), fun _ => g8.2 (by omega)⟩⟩
    · unfold xNm; rw [zu_row _ _ (by omega), zu_row _ _ (by omega), zu_row _ _ (by omega)]; exact g5
    · have t := g6 p hp (fun z => by omega)
      exact ⟨t.1.c (by rw [zu_row _ _ (by simp only [zra]; omega)]) (by rw [zu_row _ _ (by simp only [zra]; omega)]), t.2⟩
  · refine zw_tableOut 57 dX9_takeMark_4 (by omega) h_4 (by decide) ?_
    rw [if_neg (by omega), if_neg (by omega), if_neg (by omega)]
    refine zw_iconst 58 rfl dX9_takeMark_57 ?_
    exact zw_iret (st := []) dX9_takeMark_58 rfl ⟨_, rfl, rfl, fun _ _ => rfl, fun q => by omega⟩
theorem c_takeName {G : zG} {B n : Nat} {σ σ1 τ : zSt} {r : zRd} {K : zTok} (hr : xRd B σ1 n (r.1, K.2.1, r.2.2.1, r.2.2.2) σ) (hs : xTS B σ K.1 K.2.2.2) (h4 : σ (B + 29) 4 = K.2.2.1) (hkd : (0 ≤ K.2.2.1 ∧ K.2.2.1 ≤ 4) ∧ (K.2.2.1 = 1 → 1 ≤ K.2.2.2 ∧ K.2.2.2 ≤ 16)) (hw : r.1 = 1) : zC G M_X9_takeName [.ref (B + 31), .ref (B + 29)] (zxS B, σ, τ) (xTQ B σ1 σ τ n (zStep (σ (B + 30)) r K)) := by
  obtain ⟨g0, g1, g2, g3, g4, g5, g6, g7, g8⟩ := id hr
  have g5a := g5.1
  have g5b := g5.2.1
  dsimp only at g1 g2 g3 g4 g5 g6 g7 g8 g5a g5b
  refine zC_of 0 rfl (Nat.le_of_ble_eq_true rfl) ?_
  unfold zStep
  rw [if_neg (by omega), if_pos hw]
  refine zw_aload_n 1 rfl dX9_takeName_0 rfl ?_
  refine zw_geti 4 rfl dX9_takeName_1 fl_X9_61 (by first | assumption | exact zx_o0 | exact zx_o _ _ _ rfl) ?_
  rw [h4]
  refine zw_iconst 5 rfl dX9_takeName_4 ?_
  refine zw_icmp_eq 10 8 rfl dX9_takeName_5 (by decide) (by omega) (by omega) (fun h_5 => ?_) (fun h_5 => ?_)
  · rw [if_pos h_5]
    refine zw_aload_n 11 rfl dX9_takeName_10 rfl ?_
    refine zw_getr 14 rfl dX9_takeName_11 fl_X9_20 (by first | assumption | exact zx_o0 | exact zx_o _ _ _ rfl) (by first | assumption | exact zx_f0 _ _ rfl | exact zx_f _ _ _ rfl) ?_
    refine zw_aload_n 15 rfl dX9_takeName_14 rfl ?_
    refine zw_cVi1 18 rfl dX9_takeName_15 kX9_takeName_64 (Nat.le_of_ble_eq_true rfl) (by first | assumption | exact zx_o0 | exact zx_o _ _ _ rfl) (c_know zx_nmR g5 hs (hkd.2 h_5)) ?_
    refine zw_if_eqB 23 21 rfl dX9_takeName_18 (by decide) (fun h_18 => ?_) (fun h_18 => ?_)
    · refine zw_aload_n 24 rfl dX9_takeName_23 rfl ?_
      refine zw_getr 27 rfl dX9_takeName_24 fl_X9_20 (by first | assumption | exact zx_o0 | exact zx_o _ _ _ rfl) (by first | assumption | exact zx_f0 _ _ rfl | exact zx_f _ _ _ rfl) ?_
      refine zw_aload_n 28 rfl dX9_takeName_27 rfl ?_
      refine zw_cVr1 31 rfl dX9_takeName_28 kX9_takeName_68 (Nat.le_of_ble_eq_true rfl) (by first | assumption | exact zx_o0 | exact zx_o _ _ _ rfl) (c_nameAdd zx_nmR g5 hs (hkd.2 h_5) (g8.1 hw) (by omega)) ?_
      rintro _ _ ⟨rfl, σ2, rfl, f1, f2⟩
      refine zw_aload_n 32 rfl dX9_takeName_31 rfl ?_
      refine zw_iconst 33 rfl dX9_takeName_32 ?_
      refine zw_puti 36 rfl dX9_takeName_33 fp_X9_29 (by first | assumption | exact zx_o0 | exact zx_o _ _ _ rfl) ?_
      refine zw_iconst 37 rfl dX9_takeName_36 ?_
      rw [if_neg h_18]
      refine zw_iret (st := []) dX9_takeName_37 rfl ⟨_, rfl, rfl, fun b hb => by rw [zu_row _ _ (by omega)]; exact f1 b (by omega), fun q => ⟨fun b hb => by rw [zu_row _ _ (by omega), f1 b (by omega)]; exact g0 b hb, by rw [zu_row _ _ (by omega), f1 _ (by omega)]; exact g1, by rw [zu_row _ _ (by omega), f1 _ (by omega)]; exact g2, ⟨by rw [zu_row _ _ (by omega), f1 _ (by omega)]; exact g3.1, g3.2⟩, zu_eq _ _ _ _, ?_, fun p hp hq => ?_, by show (0 : Int) ≤ 2 ∧ (2 : Int) ≤ 5; omega, fun z => absurd (show (2 : Int) = 1 from z) (by omega), fun _ => by simp⟩⟩
      · unfold xNm; rw [zu_row _ _ (by omega), zu_row _ _ (by omega), zu_row _ _ (by omega)]; exact f2
      · have hq' := hq rfl
        simp only [List.length_append, List.length_cons, List.length_nil] at hq'
        have t := g6 p (by omega) (fun z => by omega)
        exact ⟨t.1.c (by rw [zu_row _ _ (by simp only [zra]; omega), f1 _ (by simp only [zra]; omega)]) (by rw [zu_row _ _ (by simp only [zra]; omega), f1 _ (by simp only [zra]; omega)]), t.2⟩
    · refine zw_iconst 22 rfl dX9_takeName_21 ?_
      rw [if_pos h_18]
      exact zw_iret (st := []) dX9_takeName_22 rfl ⟨_, rfl, rfl, fun _ _ => rfl, fun q => by omega⟩
  · refine zw_iconst 9 rfl dX9_takeName_8 ?_
    rw [if_neg h_5]
    exact zw_iret (st := []) dX9_takeName_9 rfl ⟨_, rfl, rfl, fun _ _ => rfl, fun q => by omega⟩
