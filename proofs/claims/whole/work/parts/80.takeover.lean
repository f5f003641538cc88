theorem c_nmBecome {G : zG} {S : zSh} {σ τ : zSt} {a b : Nat} {ns : List (List Int)} (ha : zNmS S a) (hb : zNmS S b) (hn : xNm σ b ns) (hab : a + 2 < b ∨ b + 2 < a) : zC G M_X2_become [.ref a, .ref b] (S, σ, τ) (fun v w => v = none ∧ ∃ σ' : zSt, w = (S, σ', τ) ∧ (∀ c, c < a ∨ a + 2 < c → σ' c = σ c) ∧ xNm σ' a ns) := by
  obtain ⟨o0, r0, r1, o1, o2⟩ := id ha
  obtain ⟨p0, s0, s1, p1, p2⟩ := id hb
  obtain ⟨n1, n2, n3⟩ := hn
  refine zC_of 0 rfl (Nat.le_of_ble_eq_true rfl) ?_
  refine zw_aload_n 1 rfl dX2_become_0 rfl ?_
  refine zw_aload_n 2 rfl dX2_become_1 rfl ?_
  refine zw_geti 5 rfl dX2_become_2 fl_X2_18 (by first | assumption | exact zx_o0 | exact zx_o _ _ _ rfl) ?_
  refine zw_puti 8 rfl dX2_become_5 fp_X2_18 (by first | assumption | exact zx_o0 | exact zx_o _ _ _ rfl) ?_
  refine zw_aload_n 9 rfl dX2_become_8 rfl ?_
  refine zw_getr 12 rfl dX2_become_9 fl_X2_9 (by first | assumption | exact zx_o0 | exact zx_o _ _ _ rfl) (by first | assumption | exact zx_f0 _ _ rfl | exact zx_f _ _ _ rfl) ?_
  refine zw_iconst 13 rfl dX2_become_12 ?_
  refine zw_aload_n 14 rfl dX2_become_13 rfl ?_
  refine zw_getr 17 rfl dX2_become_14 fl_X2_9 (by first | assumption | exact zx_o0 | exact zx_o _ _ _ rfl) (by first | assumption | exact zx_f0 _ _ rfl | exact zx_f _ _ _ rfl) ?_
  refine zw_iconst 18 rfl dX2_become_17 ?_
  refine zw_bipush 20 rfl dX2_become_18 rfl ?_
  refine zw_copyi 23 rfl dX2_become_20 kcX2_22 ⟨Nat.le_of_ble_eq_true rfl, Nat.le_of_ble_eq_true rfl⟩ p1 o1 (by omega) ?_
  refine zw_aload_n 24 rfl dX2_become_23 rfl ?_
  refine zw_getr 27 rfl dX2_become_24 fl_X2_15 (by first | assumption | exact zx_o0 | exact zx_o _ _ _ rfl) (by first | assumption | exact zx_f0 _ _ rfl | exact zx_f _ _ _ rfl) ?_
  refine zw_iconst 28 rfl dX2_become_27 ?_
  refine zw_aload_n 29 rfl dX2_become_28 rfl ?_
  refine zw_getr 32 rfl dX2_become_29 fl_X2_15 (by first | assumption | exact zx_o0 | exact zx_o _ _ _ rfl) (by first | assumption | exact zx_f0 _ _ rfl | exact zx_f _ _ _ rfl) ?_
  refine zw_iconst 33 rfl dX2_become_32 ?_
  refine zw_iconst 34 rfl dX2_become_33 ?_
  refine zw_copyi 37 rfl dX2_become_34 kcX2_22 ⟨Nat.le_of_ble_eq_true rfl, Nat.le_of_ble_eq_true rfl⟩ p2 o2 (by omega) ?_
  refine zw_vret (st := []) dX2_become_37 rfl ⟨rfl, _, rfl, fun c hc => by rw [zr_ne _ _ (by omega), zr_ne _ _ (by omega), zu_row _ _ (by omega)], ?_, n2, fun p hp => ?_⟩
  · rw [zr_ne _ _ (by omega), zr_ne _ _ (by omega), zu_eq]; exact n1
  · have t := n3 p hp
    refine ⟨?_, t.2.1, fun k hk => ?_⟩
    · rw [zr_eq, if_pos (by show p < 4; omega), zr_ne _ _ (by omega), zu_row _ _ (by omega)]; exact t.1
    · rw [zr_ne _ _ (by omega), zr_eq, if_pos (by show 16 * p + k < 64; omega), zu_row _ _ (by omega)]; exact t.2.2 k hk
/-- the pictures that a text tells -/
def aTk (r : zRd) : Nat → zPc := fun p => if p < r.2.2.1.length then r.2.2.2 p else (0, 0, fun _ _ => 0)
theorem c_takeOver {G : zG} {B n : Nat} {σ σ1 τ : zSt} {r : zRd} (hr : xRd B σ1 n r σ) (h5 : r.1 = 5) : zC G M_X10_takeOver [.ref B] (zxS B, σ, τ) (fun v w => v = none ∧ ∃ σ' : zSt, w = (zxS B, σ', τ) ∧ (∀ b, (b < B + 44 ∨ (B + 54 < b ∧ b < B + 74)) → b ≠ B + 6 → σ' b = σ b) ∧ (∀ k, k ≠ 3 → σ' (B + 6) k = σ (B + 6) k) ∧ σ' (B + 6) 3 = 0 ∧ σ' (B + 47) 5 = 0 ∧ xNm σ' (B + 44) r.2.2.1 ∧ xrP B σ' (aTk r)) := by
  obtain ⟨g0, g1, g2, g3, g4, g5, g6, g7, g8⟩ := id hr
  have g5b := g5.2.1
  refine zC_of 1 rfl (Nat.le_of_ble_eq_true rfl) ?_
  have loop : ∀ (fu p : Nat) (σs : zSt), p ≤ 6 → 6 - p < fu → (∀ b, (b < B + 44 ∨ (B + 46 < b ∧ b < B + 74)) → σs b = σ b) → xNm σs (B + 44) r.2.2.1 → (∀ i, i < p → xrPic σs (zpa B i) (aTk r i)) → zW G M_X10_takeOver (fun v w => v = none ∧ ∃ σ' : zSt, w = (zxS B, σ', τ) ∧ (∀ b, (b < B + 44 ∨ (B + 54 < b ∧ b < B + 74)) → b ≠ B + 6 → σ' b = σ b) ∧ (∀ k, k ≠ 3 → σ' (B + 6) k = σ (B + 6) k) ∧ σ' (B + 6) 3 = 0 ∧ σ' (B + 47) 5 = 0 ∧ xNm σ' (B + 44) r.2.2.1 ∧ xrP B σ' (aTk r)) 16 [some (.ref B), some (vi p)] [] (zxS B, σs, τ) := by
    intro fu
    induction fu with
    | zero => intro p σs h1 h2; omega
    | succ fu ih =>
      intro p σs h1 h2 f0 f1 f2
      have f1a := f1.1
      have hpp : p < 6 → zPic (zxS B) (zpa B p) (zpa B p + 1) := fun q => zx_p6 q
      have hrr : p < 4 → zPic (zxS B) (zra B p) (zra B p + 1) := fun q => zx_r4 q
      have L68 : p < 6 → ∀ σ2 : zSt, (∀ b, b ≠ zpa B p → b ≠ zpa B p + 1 → σ2 b = σs b) → xrPic σ2 (zpa B p) (aTk r p) → zW G M_X10_takeOver (fun v w => v = none ∧ ∃ σ' : zSt, w = (zxS B, σ', τ) ∧ (∀ b, (b < B + 44 ∨ (B + 54 < b ∧ b < B + 74)) → b ≠ B + 6 → σ' b = σ b) ∧ (∀ k, k ≠ 3 → σ' (B + 6) k = σ (B + 6) k) ∧ σ' (B + 6) 3 = 0 ∧ σ' (B + 47) 5 = 0 ∧ xNm σ' (B + 44) r.2.2.1 ∧ xrP B σ' (aTk r)) 68 [some (.ref B), some (vi p)] [] (zxS B, σ2, τ) := by
        intro hp6 σ2 q0 q1
        refine zw_iinc 71 rfl dX10_takeOver_68 (Nat.le_of_ble_eq_true rfl) rfl rfl ?_
        refine zw_goto 16 dX10_takeOver_71 (by decide) ?_
        refine ih (p + 1) σ2 (by omega) (by omega) (fun b hb => by rw [q0 b (by simp only [zpa]; omega) (by simp only [zpa]; omega)]; exact f0 b hb) ?_ (fun i hi => ?_)
        · unfold xNm; rw [q0 _ (by simp only [zpa]; omega) (by simp only [zpa]; omega), q0 _ (by simp only [zpa]; omega) (by simp only [zpa]; omega), q0 _ (by simp only [zpa]; omega) (by simp only [zpa]; omega)]; exact f1
        · by_cases e : i = p
          · rw [e]; exact q1
          · exact (f2 i (by omega)).c (q0 _ (by simp only [zpa]; omega) (by simp only [zpa]; omega)) (q0 _ (by simp only [zpa]; omega) (by simp only [zpa]; omega))
      refine zw_iload_n 17 rfl dX10_takeOver_16 rfl ?_
      refine zw_bipush 19 rfl dX10_takeOver_17 rfl ?_
      refine zw_icmp_ge 74 22 rfl dX10_takeOver_19 (by decide) (by omega) (by omega) (fun h_19 => ?_) (fun h_19 => ?_)
      · refine zw_aload_n 75 rfl dX10_takeOver_74 rfl ?_
        refine zw_getr 78 rfl dX10_takeOver_75 fl_X10_54 (by first | assumption | exact zx_o0 | exact zx_o _ _ _ rfl) (by first | assumption | exact zx_f0 _ _ rfl | exact zx_f _ _ _ rfl) ?_
        refine zw_cVv0 81 rfl dX10_takeOver_78 kX10_takeOver_143 (Nat.le_of_ble_eq_true rfl) (by first | assumption | exact zx_o0 | exact zx_o _ _ _ rfl) (c_forgetL zx_lat) ?_
        refine zw_aload_n 82 rfl dX10_takeOver_81 rfl ?_
        refine zw_getr 85 rfl dX10_takeOver_82 fl_X10_26 (by first | assumption | exact zx_o0 | exact zx_o _ _ _ rfl) (by first | assumption | exact zx_f0 _ _ rfl | exact zx_f _ _ _ rfl) ?_
        refine zw_iconst 86 rfl dX10_takeOver_85 ?_
        refine zw_puti 89 rfl dX10_takeOver_86 fp_X10_144 (by first | assumption | exact zx_o0 | exact zx_o _ _ _ rfl) ?_
        refine zw_vret (st := []) dX10_takeOver_89 rfl ⟨rfl, _, rfl, fun b q1 q2 => by rw [zu_row _ _ q2, zu_row _ _ (by omega)]; exact f0 b (by omega), fun k hk => by rw [zu_k _ _ hk, zu_row _ _ (by omega), f0 _ (by omega)], zu_eq _ _ _ _, by rw [zu_row _ _ (by omega), zu_eq], ?_, fun i hi => ?_⟩
        · unfold xNm; simp only [zu_row _ _ (show B + 44 ≠ B + 6 by omega), zu_row _ _ (show B + 44 + 1 ≠ B + 6 by omega), zu_row _ _ (show B + 44 + 2 ≠ B + 6 by omega), zu_row _ _ (show B + 44 ≠ B + 47 by omega), zu_row _ _ (show B + 44 + 1 ≠ B + 47 by omega), zu_row _ _ (show B + 44 + 2 ≠ B + 47 by omega)]; exact f1
        · exact (f2 i (by omega)).c (by rw [zu_row _ _ (by simp only [zpa]; omega), zu_row _ _ (by simp only [zpa]; omega)]) (by rw [zu_row _ _ (by simp only [zpa]; omega), zu_row _ _ (by simp only [zpa]; omega)])
      · refine zw_iload_n 23 rfl dX10_takeOver_22 rfl ?_
        refine zw_aload_n 24 rfl dX10_takeOver_23 rfl ?_
        refine zw_getr 27 rfl dX10_takeOver_24 fl_X10_47 (by first | assumption | exact zx_o0 | exact zx_o _ _ _ rfl) (by first | assumption | exact zx_f0 _ _ rfl | exact zx_f _ _ _ rfl) ?_
        refine zw_geti 30 rfl dX10_takeOver_27 fl_X10_125 (by first | assumption | exact zx_o0 | exact zx_o _ _ _ rfl) ?_
        rw [f1a]
        refine zw_icmp_ge 59 33 rfl dX10_takeOver_30 (by decide) (by omega) (by omega) (fun h_30 => ?_) (fun h_30 => ?_)
        · refine zw_aload_n 60 rfl dX10_takeOver_59 rfl ?_
          refine zw_getr 63 rfl dX10_takeOver_60 fl_X10_11 (by first | assumption | exact zx_o0 | exact zx_o _ _ _ rfl) (by first | assumption | exact zx_f0 _ _ rfl | exact zx_f _ _ _ rfl) ?_
          refine zw_iload_n 64 rfl dX10_takeOver_63 rfl ?_
          refine zw_aald 65 rfl dX10_takeOver_64 (zx_o 1 14 6 rfl) (by omega) (by omega) (by rw [Int.toNat_natCast]; exact zx_p6r (by omega)) ?_
          refine zw_cVv0 68 rfl dX10_takeOver_65 kX10_takeOver_140 (Nat.le_of_ble_eq_true rfl) (hpp (by omega)).1 (c_forget (hpp (by omega)).1) ?_
          first | exact L68 (by omega) _ (fun b q1 q2 => zbec_o _ q1 q2) (by
              have t := (g6 p (by omega) (fun z => by omega)).1
              have t2 : xrPic σs (zra B p) (r.2.2.2 p) := t.c (f0 _ (by simp only [zra]; omega)) (f0 _ (by simp only [zra]; omega))
              have e : aTk r p = r.2.2.2 p := if_pos (by omega)
              rw [e]; exact t2.bec) | exact L68 (by omega) _ (fun b q1 q2 => by rw [zu_row _ _ q1, zu_row _ _ q1]) (by
              have e : aTk r p = (0, 0, fun _ _ => 0) := if_neg (by omega)
              rw [e]
              exact ⟨by unfold zPW; simp [zu], by simp [zu], fun z => by simp at z⟩)
        · refine zw_iload_n 34 rfl dX10_takeOver_33 rfl ?_
          refine zw_iconst 35 rfl dX10_takeOver_34 ?_
          refine zw_icmp_ge 59 38 rfl dX10_takeOver_35 (by decide) (by omega) (by omega) (fun h_35 => ?_) (fun h_35 => ?_)
          · refine zw_aload_n 60 rfl dX10_takeOver_59 rfl ?_
            refine zw_getr 63 rfl dX10_takeOver_60 fl_X10_11 (by first | assumption | exact zx_o0 | exact zx_o _ _ _ rfl) (by first | assumption | exact zx_f0 _ _ rfl | exact zx_f _ _ _ rfl) ?_
            refine zw_iload_n 64 rfl dX10_takeOver_63 rfl ?_
            refine zw_aald 65 rfl dX10_takeOver_64 (zx_o 1 14 6 rfl) (by omega) (by omega) (by rw [Int.toNat_natCast]; exact zx_p6r (by omega)) ?_
            refine zw_cVv0 68 rfl dX10_takeOver_65 kX10_takeOver_140 (Nat.le_of_ble_eq_true rfl) (hpp (by omega)).1 (c_forget (hpp (by omega)).1) ?_
            first | exact L68 (by omega) _ (fun b q1 q2 => zbec_o _ q1 q2) (by
                have t := (g6 p (by omega) (fun z => by omega)).1
                have t2 : xrPic σs (zra B p) (r.2.2.2 p) := t.c (f0 _ (by simp only [zra]; omega)) (f0 _ (by simp only [zra]; omega))
                have e : aTk r p = r.2.2.2 p := if_pos (by omega)
                rw [e]; exact t2.bec) | exact L68 (by omega) _ (fun b q1 q2 => by rw [zu_row _ _ q1, zu_row _ _ q1]) (by
                have e : aTk r p = (0, 0, fun _ _ => 0) := if_neg (by omega)
                rw [e]
                exact ⟨by unfold zPW; simp [zu], by simp [zu], fun z => by simp at z⟩)
          · refine zw_aload_n 39 rfl dX10_takeOver_38 rfl ?_
            refine zw_getr 42 rfl dX10_takeOver_39 fl_X10_11 (by first | assumption | exact zx_o0 | exact zx_o _ _ _ rfl) (by first | assumption | exact zx_f0 _ _ rfl | exact zx_f _ _ _ rfl) ?_
            refine zw_iload_n 43 rfl dX10_takeOver_42 rfl ?_
            refine zw_aald 44 rfl dX10_takeOver_43 (zx_o 1 14 6 rfl) (by omega) (by omega) (by rw [Int.toNat_natCast]; exact zx_p6r (by omega)) ?_
            refine zw_aload_n 45 rfl dX10_takeOver_44 rfl ?_
            refine zw_getr 48 rfl dX10_takeOver_45 fl_X10_40 (by first | assumption | exact zx_o0 | exact zx_o _ _ _ rfl) (by first | assumption | exact zx_f0 _ _ rfl | exact zx_f _ _ _ rfl) ?_
            refine zw_getr 51 rfl dX10_takeOver_48 fl_X10_136 (by first | assumption | exact zx_o0 | exact zx_o _ _ _ rfl) (by first | assumption | exact zx_f0 _ _ rfl | exact zx_f _ _ _ rfl) ?_
            refine zw_iload_n 52 rfl dX10_takeOver_51 rfl ?_
            refine zw_aald 53 rfl dX10_takeOver_52 (zx_o 32 14 4 rfl) (by omega) (by omega) (by rw [Int.toNat_natCast]; exact zx_r4r (by omega)) ?_
            refine zw_cVv1 56 rfl dX10_takeOver_53 kX10_takeOver_137 (Nat.le_of_ble_eq_true rfl) (hpp (by omega)).1 (c_become (hpp (by omega)) (hrr (by omega)) (by simp only [zpa, zra]; omega) (by simp only [zpa, zra]; omega)) ?_
            refine zw_goto 68 dX10_takeOver_56 (by decide) ?_
            first | exact L68 (by omega) _ (fun b q1 q2 => zbec_o _ q1 q2) (by
                have t := (g6 p (by omega) (fun z => by omega)).1
                have t2 : xrPic σs (zra B p) (r.2.2.2 p) := t.c (f0 _ (by simp only [zra]; omega)) (f0 _ (by simp only [zra]; omega))
                have e : aTk r p = r.2.2.2 p := if_pos (by omega)
                rw [e]; exact t2.bec) | exact L68 (by omega) _ (fun b q1 q2 => by rw [zu_row _ _ q1, zu_row _ _ q1]) (by
                have e : aTk r p = (0, 0, fun _ _ => 0) := if_neg (by omega)
                rw [e]
                exact ⟨by unfold zPW; simp [zu], by simp [zu], fun z => by simp at z⟩)
  refine zw_aload_n 1 rfl dX10_takeOver_0 rfl ?_
  refine zw_getr 4 rfl dX10_takeOver_1 fl_X10_47 (by first | assumption | exact zx_o0 | exact zx_o _ _ _ rfl) (by first | assumption | exact zx_f0 _ _ rfl | exact zx_f _ _ _ rfl) ?_
  refine zw_aload_n 5 rfl dX10_takeOver_4 rfl ?_
  refine zw_getr 8 rfl dX10_takeOver_5 fl_X10_40 (by first | assumption | exact zx_o0 | exact zx_o _ _ _ rfl) (by first | assumption | exact zx_f0 _ _ rfl | exact zx_f _ _ _ rfl) ?_
  refine zw_getr 11 rfl dX10_takeOver_8 fl_X10_131 (by first | assumption | exact zx_o0 | exact zx_o _ _ _ rfl) (by first | assumption | exact zx_f0 _ _ rfl | exact zx_f _ _ _ rfl) ?_
  refine zw_cVr1 14 rfl dX10_takeOver_11 kX10_takeOver_132 (Nat.le_of_ble_eq_true rfl) (by first | assumption | exact zx_o0 | exact zx_o _ _ _ rfl) (c_nmBecome zx_nm zx_nmR g5 (by omega)) ?_
  rintro _ _ ⟨rfl, σ2, rfl, q0, q1⟩
  refine zw_iconst 15 rfl dX10_takeOver_14 ?_
  refine zw_istore_n 16 rfl dX10_takeOver_15 (Nat.le_of_ble_eq_true rfl) rfl ?_
  exact loop 7 0 σ2 (by omega) (by omega) (fun b hb => q0 b (by omega)) q1 (fun i hi => by omega)
