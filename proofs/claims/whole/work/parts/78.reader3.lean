theorem xTR {B n a : Nat} {σ σ1 σs σ2 : zSt} {r : zRd} {K : zTok} {p : zPc} {t : Nat → Int} {s wl : Nat} (hr : xRd B σ1 n (r.1, K.2.1, r.2.2.1, r.2.2.2) σ) (hza : ∀ p, zra B p = B + 36 + 2 * p) (hA : zra B (r.2.2.1.length - 1) = a) (ha1 : a = B + 36 + 2 * (r.2.2.1.length - 1)) (f0 : ∀ b, b ≠ a → σs b = σ b) (f1 : ∀ b, b ≠ a → b ≠ a + 1 → σ2 b = zu σs (B + 31) 2 4 b) (f2 : xrPi σ2 a (aRow p t s wl)) (hp0 : 0 ≤ p.2.1) (g8b : 1 ≤ r.2.2.1.length) (g5b : r.2.2.1.length ≤ 4) (hw : r.1 = 2 ∨ r.1 = 3) : xRd B σ1 n (4, K.2.1, r.2.2.1, va_up r.2.2.2 (r.2.2.1.length - 1) (aRow p t s wl)) σ2 := by
  obtain ⟨g0, g1, g2, g3, g4, g5, g6, g7, g8⟩ := hr
  dsimp only at g1 g2 g3 g4 g5 g6 g7 g8
  have hf : ∀ b, b ≠ a → b ≠ a + 1 → b ≠ B + 31 → σ2 b = σ b := fun b q1 q2 q3 => by rw [f1 b q1 q2, zu_row _ _ q3]; exact f0 b q1
  refine ⟨fun b hb => by rw [hf b (by omega) (by omega) (by omega)]; exact g0 b hb, by rw [hf _ (by omega) (by omega) (by omega)]; exact g1, by rw [hf _ (by omega) (by omega) (by omega)]; exact g2, ⟨by rw [hf _ (by omega) (by omega) (by omega)]; exact g3.1, g3.2⟩, by rw [f1 _ (by omega) (by omega)]; exact zu_eq _ _ _ _, ?_, fun j hj hq => ?_, by show (0 : Int) ≤ 4 ∧ (4 : Int) ≤ 5; omega, fun z => absurd (show (4 : Int) = 1 from z) (by omega), fun _ => g8b⟩
  · unfold xNm
    rw [hf _ (by omega) (by omega) (by omega), hf _ (by omega) (by omega) (by omega), hf _ (by omega) (by omega) (by omega)]
    exact g5
  · dsimp only at hj ⊢
    by_cases e : j = r.2.2.1.length - 1
    · rw [e, va_up_self, hA]
      have hh : 1 ≤ (aRow p t s wl).2.1 := by
        show (1 : Int) ≤ p.2.1 + 1
        omega
      exact ⟨f2.pic hh, by have := f2.1.2.1; omega⟩
    · rw [va_up_ne _ _ e]
      have t := g6 j hj (fun z => by omega)
      have := hza j
      exact ⟨t.1.c (hf _ (by omega) (by omega) (by omega)) (hf _ (by omega) (by omega) (by omega)), t.2⟩
theorem c_takeRow {G : zG} {B n : Nat} {σ σ1 τ : zSt} {r : zRd} {K : zTok} (hr : xRd B σ1 n (r.1, K.2.1, r.2.2.1, r.2.2.2) σ) (hs : xTS B σ K.1 K.2.2.2) (h4 : σ (B + 29) 4 = K.2.2.1) (hkd : (0 ≤ K.2.2.1 ∧ K.2.2.1 ≤ 4) ∧ (K.2.2.1 = 1 → 1 ≤ K.2.2.2 ∧ K.2.2.2 ≤ 16)) (hw : r.1 = 2 ∨ r.1 = 3) : zC G M_X9_takeRow [.ref (B + 31), .ref (B + 29)] (zxS B, σ, τ) (xTQ B σ1 σ τ n (zStep (σ (B + 30)) r K)) := by
  obtain ⟨g0, g1, g2, g3, g4, g5, g6, g7, g8⟩ := id hr
  have g5a := g5.1
  have g5b := g5.2.1
  dsimp only at g1 g2 g3 g4 g5 g6 g7 g8 g5a g5b
  have h6 := hs.2.1
  have g8b := g8.2 (by omega)
  refine zC_of 1 rfl (Nat.le_of_ble_eq_true rfl) ?_
  unfold zStep
  rw [if_neg (by omega), if_neg (by omega), if_neg (by omega)]
  have ha : zPic (zxS B) (zra B (r.2.2.1.length - 1)) (zra B (r.2.2.1.length - 1) + 1) := zx_r4 (by omega)
  have har : (zxS B).2.2 (B + 32) (r.2.2.1.length - 1) = some (zra B (r.2.2.1.length - 1)) := zx_r4r (by omega)
  have hza : ∀ p, zra B p = B + 36 + 2 * p := fun p => by simp only [zra]; try omega
  generalize hA : zra B (r.2.2.1.length - 1) = a at *
  have ha1 := hza (r.2.2.1.length - 1)
  rw [hA] at ha1
  have L51 : K.2.2.1 = 1 → ∀ σs : zSt, (∀ b, b ≠ a → σs b = σ b) → xrPi σs a (zP0 r K.2.2.2) → zW G M_X9_takeRow (xTQ B σ1 σ τ n (zRf (zP0 r K.2.2.2) (σ (B + 30)) K.1 K.2.2.2, (4, K.2.1, r.2.2.1, va_up r.2.2.2 (r.2.2.1.length - 1) (aRow (zP0 r K.2.2.2) (σ (B + 30)) K.1 K.2.2.2)))) 51 [some (.ref (B + 31)), some (.ref (B + 29)), some (vi ((r.2.2.1.length - 1 : Nat) : Int))] [] (zxS B, σs, τ) := by
    intro hk1 σs f0 hpi
    have hsS : xTS B (zu σs (B + 31) 2 4) K.1 K.2.2.2 := by
      unfold xTS
      rw [zu_row _ _ (by omega), zu_row _ _ (by omega), f0 _ (by omega), f0 _ (by omega)]
      exact hs
    have hpi2 : xrPi (zu σs (B + 31) 2 4) a (zP0 r K.2.2.2) := by
      unfold xrPi
      rw [zu_row _ _ (by omega), zu_row _ _ (by omega)]
      exact hpi
    have e30 : zu σs (B + 31) 2 4 (B + 30) = σ (B + 30) := by rw [zu_row _ _ (by omega), f0 _ (by omega)]
    have hadd := c_addRow (G := G) (τ := τ) ha hpi2 hsS (hkd.2 hk1) (by omega)
    rw [e30] at hadd
    refine zw_aload_n 52 rfl dX9_takeRow_51 rfl ?_
    refine zw_iconst 53 rfl dX9_takeRow_52 ?_
    refine zw_puti 56 rfl dX9_takeRow_53 fp_X9_29 (by first | assumption | exact zx_o0 | exact zx_o _ _ _ rfl) ?_
    refine zw_aload_n 57 rfl dX9_takeRow_56 rfl ?_
    refine zw_getr 60 rfl dX9_takeRow_57 fl_X9_11 (by first | assumption | exact zx_o0 | exact zx_o _ _ _ rfl) (by first | assumption | exact zx_f0 _ _ rfl | exact zx_f _ _ _ rfl) ?_
    refine zw_iload_n 61 rfl dX9_takeRow_60 rfl ?_
    refine zw_aald 62 rfl dX9_takeRow_61 (zx_o 32 14 4 rfl) (by omega) (by omega) (by rw [Int.toNat_natCast]; exact har) ?_
    refine zw_aload_n 63 rfl dX9_takeRow_62 rfl ?_
    refine zw_cSr2 66 rfl dX9_takeRow_63 kX9_takeRow_79 (Nat.le_of_ble_eq_true rfl) hadd ?_
    rintro _ _ ⟨σ2, rfl, f1, rfl, f2⟩
    exact zw_iret (st := []) dX9_takeRow_66 rfl ⟨_, rfl, rfl, fun b hb => by rw [f1 b (by omega) (by omega), zu_row _ _ (by omega)]; exact f0 b (by omega), fun q => xTR hr hza hA ha1 f0 f1 (f2 q) hpi.2.1.2.1 g8b g5b hw⟩
  refine zw_aload_n 1 rfl dX9_takeRow_0 rfl ?_
  refine zw_getr 4 rfl dX9_takeRow_1 fl_X9_20 (by first | assumption | exact zx_o0 | exact zx_o _ _ _ rfl) (by first | assumption | exact zx_f0 _ _ rfl | exact zx_f _ _ _ rfl) ?_
  refine zw_geti 7 rfl dX9_takeRow_4 fl_X9_25 (by first | assumption | exact zx_o0 | exact zx_o _ _ _ rfl) ?_
  rw [g5a]
  refine zw_iconst 8 rfl dX9_takeRow_7 ?_
  refine zw_isub 9 rfl dX9_takeRow_8 ?_
  refine zw_istore_n 10 rfl dX9_takeRow_9 (Nat.le_of_ble_eq_true rfl) rfl ?_
  rw [show (r.2.2.1.length : Int) - 1 = ((r.2.2.1.length - 1 : Nat) : Int) by omega]
  refine zw_aload_n 11 rfl dX9_takeRow_10 rfl ?_
  refine zw_geti 14 rfl dX9_takeRow_11 fl_X9_61 (by first | assumption | exact zx_o0 | exact zx_o _ _ _ rfl) ?_
  rw [h4]
  refine zw_iconst 15 rfl dX9_takeRow_14 ?_
  refine zw_icmp_ne 27 18 rfl dX9_takeRow_15 (by decide) (by omega) (by omega) (fun h_15 => ?_) (fun h_15 => ?_)
  · refine zw_iconst 28 rfl dX9_takeRow_27 ?_
    first | (rw [if_neg h_15]; exact zw_iret (st := []) dX9_takeRow_28 rfl ⟨_, rfl, rfl, fun _ _ => rfl, fun q => by omega⟩) | (exfalso; omega)
  · refine zw_iload_n 19 rfl dX9_takeRow_18 rfl ?_
    refine zw_if_lt 27 22 rfl dX9_takeRow_19 (by decide) (by omega) (fun h_19 => ?_) (fun h_19 => ?_)
    · refine zw_iconst 28 rfl dX9_takeRow_27 ?_
      first | (rw [if_neg h_15]; exact zw_iret (st := []) dX9_takeRow_28 rfl ⟨_, rfl, rfl, fun _ _ => rfl, fun q => by omega⟩) | (exfalso; omega)
    · refine zw_iload_n 23 rfl dX9_takeRow_22 rfl ?_
      refine zw_iconst 24 rfl dX9_takeRow_23 ?_
      refine zw_icmp_lt 29 27 rfl dX9_takeRow_24 (by decide) (by omega) (by omega) (fun h_24 => ?_) (fun h_24 => ?_)
      · rw [if_pos h_15]
        have hk16 := hkd.2 h_15
        refine zw_aload_n 30 rfl dX9_takeRow_29 rfl ?_
        refine zw_geti 33 rfl dX9_takeRow_30 fl_X9_29 (by first | assumption | exact zx_o0 | exact zx_o _ _ _ rfl) ?_
        rw [g4]
        refine zw_iconst 34 rfl dX9_takeRow_33 ?_
        refine zw_icmp_ne 51 37 rfl dX9_takeRow_34 (by decide) (by omega) (by omega) (fun h_34 => ?_) (fun h_34 => ?_)
        · first | exact L51 h_15 _ (fun b hb => rfl) (by unfold zP0; rw [if_neg h_34]; have t := g6 (r.2.2.1.length - 1) (by omega) (fun z => absurd z h_34); rw [hA] at t; exact t.1.pi t.2) | (rw [zhold_in (by omega), zhold_in (by omega)]; exact L51 h_15 _ (fun b hb => by rw [zu_row _ _ hb, zu_row _ _ hb]) (by unfold zP0; rw [if_pos h_34]; exact ⟨⟨by rw [zu_k _ _ (by omega), zu_eq], by show (1 : Int) ≤ (K.2.2.2 : Int) ∧ (K.2.2.2 : Int) ≤ 16; omega⟩, ⟨zu_eq _ _ _ _, by show (0 : Int) ≤ 0 ∧ (0 : Int) ≤ 12; omega⟩, fun x y hx hy => by have hy' : 0 ≤ y ∧ y < (0 : Int) := hy; omega⟩))
        · refine zw_aload_n 38 rfl dX9_takeRow_37 rfl ?_
          refine zw_getr 41 rfl dX9_takeRow_38 fl_X9_11 (by first | assumption | exact zx_o0 | exact zx_o _ _ _ rfl) (by first | assumption | exact zx_f0 _ _ rfl | exact zx_f _ _ _ rfl) ?_
          refine zw_iload_n 42 rfl dX9_takeRow_41 rfl ?_
          refine zw_aald 43 rfl dX9_takeRow_42 (zx_o 32 14 4 rfl) (by omega) (by omega) (by rw [Int.toNat_natCast]; exact har) ?_
          refine zw_aload_n 44 rfl dX9_takeRow_43 rfl ?_
          refine zw_geti 47 rfl dX9_takeRow_44 fl_X9_72 (by first | assumption | exact zx_o0 | exact zx_o _ _ _ rfl) ?_
          rw [h6]
          refine zw_iconst 48 rfl dX9_takeRow_47 ?_
          refine zw_cVv2 51 rfl dX9_takeRow_48 kX9_takeRow_75 (Nat.le_of_ble_eq_true rfl) ha.1 (c_resize ha.1 (by omega) (by omega)) ?_
          first | exact L51 h_15 _ (fun b hb => rfl) (by unfold zP0; rw [if_neg h_34]; have t := g6 (r.2.2.1.length - 1) (by omega) (fun z => absurd z h_34); rw [hA] at t; exact t.1.pi t.2) | (rw [zhold_in (by omega), zhold_in (by omega)]; exact L51 h_15 _ (fun b hb => by rw [zu_row _ _ hb, zu_row _ _ hb]) (by unfold zP0; rw [if_pos h_34]; exact ⟨⟨by rw [zu_k _ _ (by omega), zu_eq], by show (1 : Int) ≤ (K.2.2.2 : Int) ∧ (K.2.2.2 : Int) ≤ 16; omega⟩, ⟨zu_eq _ _ _ _, by show (0 : Int) ≤ 0 ∧ (0 : Int) ≤ 12; omega⟩, fun x y hx hy => by have hy' : 0 ≤ y ∧ y < (0 : Int) := hy; omega⟩))
      · refine zw_iconst 28 rfl dX9_takeRow_27 ?_
        first | (rw [if_neg h_15]; exact zw_iret (st := []) dX9_takeRow_28 rfl ⟨_, rfl, rfl, fun _ _ => rfl, fun q => by omega⟩) | (exfalso; omega)
