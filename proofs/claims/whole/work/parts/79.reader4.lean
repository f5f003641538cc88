theorem c_take {G : zG} {B n : Nat} {σ σ1 τ : zSt} {r : zRd} {K : zTok} (hr : xRd B σ1 n (r.1, K.2.1, r.2.2.1, r.2.2.2) σ) (hs : xTS B σ K.1 K.2.2.2) (h4 : σ (B + 29) 4 = K.2.2.1) (hkd : (0 ≤ K.2.2.1 ∧ K.2.2.1 ≤ 4) ∧ (K.2.2.1 = 1 → 1 ≤ K.2.2.2 ∧ K.2.2.2 ≤ 16)) (hw : r.1 ≠ 5) : zC G M_X9_take [.ref (B + 31), .ref (B + 29)] (zxS B, σ, τ) (xTQ B σ1 σ τ n (zStep (σ (B + 30)) r K)) := by
  have g4 := hr.2.2.2.2.1
  have g7 := hr.2.2.2.2.2.2.2.1
  dsimp only at g4 g7
  refine zC_of 0 rfl (Nat.le_of_ble_eq_true rfl) ?_
  refine zw_aload_n 1 rfl dX9_take_0 rfl ?_
  refine zw_geti 4 rfl dX9_take_1 fl_X9_29 (by first | assumption | exact zx_o0 | exact zx_o _ _ _ rfl) ?_
  rw [g4]
  rcases (show r.1 = 0 ∨ r.1 = 1 ∨ r.1 = 2 ∨ r.1 = 3 ∨ r.1 = 4 ∨ (r.1 < 0 ∨ 4 < r.1) by omega) with h_4 | h_4 | h_4 | h_4 | h_4 | h_4
  · refine zw_tableIn (off := 36) 40 dX9_take_4 (by omega) (by omega) (by omega) (by rw [h_4]; rfl) (by decide) ?_
    refine zw_aload_n 41 rfl dX9_take_40 rfl ?_
    refine zw_aload_n 42 rfl dX9_take_41 rfl ?_
    refine zw_cVr1 45 rfl dX9_take_42 kX9_take_45 (Nat.le_of_ble_eq_true rfl) (by first | assumption | exact zx_o0 | exact zx_o _ _ _ rfl) (c_takePic hr hs h4 hkd h_4) ?_
    rintro _ _ ⟨σ2, rfl, rfl, f1, f2⟩
    exact zw_iret (st := []) dX9_take_45 rfl ⟨_, rfl, rfl, f1, f2⟩
  · refine zw_tableIn (off := 42) 46 dX9_take_4 (by omega) (by omega) (by omega) (by rw [h_4]; rfl) (by decide) ?_
    refine zw_aload_n 47 rfl dX9_take_46 rfl ?_
    refine zw_aload_n 48 rfl dX9_take_47 rfl ?_
    refine zw_cVr1 51 rfl dX9_take_48 kX9_take_48 (Nat.le_of_ble_eq_true rfl) (by first | assumption | exact zx_o0 | exact zx_o _ _ _ rfl) (c_takeName hr hs h4 hkd h_4) ?_
    rintro _ _ ⟨σ2, rfl, rfl, f1, f2⟩
    exact zw_iret (st := []) dX9_take_51 rfl ⟨_, rfl, rfl, f1, f2⟩
  · refine zw_tableIn (off := 54) 58 dX9_take_4 (by omega) (by omega) (by omega) (by rw [h_4]; rfl) (by decide) ?_
    refine zw_aload_n 59 rfl dX9_take_58 rfl ?_
    refine zw_aload_n 60 rfl dX9_take_59 rfl ?_
    refine zw_cVr1 63 rfl dX9_take_60 kX9_take_54 (Nat.le_of_ble_eq_true rfl) (by first | assumption | exact zx_o0 | exact zx_o _ _ _ rfl) (c_takeRow hr hs h4 hkd (by omega)) ?_
    rintro _ _ ⟨σ2, rfl, rfl, f1, f2⟩
    exact zw_iret (st := []) dX9_take_63 rfl ⟨_, rfl, rfl, f1, f2⟩
  · refine zw_tableIn (off := 54) 58 dX9_take_4 (by omega) (by omega) (by omega) (by rw [h_4]; rfl) (by decide) ?_
    refine zw_aload_n 59 rfl dX9_take_58 rfl ?_
    refine zw_aload_n 60 rfl dX9_take_59 rfl ?_
    refine zw_cVr1 63 rfl dX9_take_60 kX9_take_54 (Nat.le_of_ble_eq_true rfl) (by first | assumption | exact zx_o0 | exact zx_o _ _ _ rfl) (c_takeRow hr hs h4 hkd (by omega)) ?_
    rintro _ _ ⟨σ2, rfl, rfl, f1, f2⟩
    exact zw_iret (st := []) dX9_take_63 rfl ⟨_, rfl, rfl, f1, f2⟩
  · refine zw_tableIn (off := 48) 52 dX9_take_4 (by omega) (by omega) (by omega) (by rw [h_4]; rfl) (by decide) ?_
    refine zw_aload_n 53 rfl dX9_take_52 rfl ?_
    refine zw_aload_n 54 rfl dX9_take_53 rfl ?_
    refine zw_cVr1 57 rfl dX9_take_54 kX9_take_51 (Nat.le_of_ble_eq_true rfl) (by first | assumption | exact zx_o0 | exact zx_o _ _ _ rfl) (c_takeMark hr hs h4 hkd h_4) ?_
    rintro _ _ ⟨σ2, rfl, rfl, f1, f2⟩
    exact zw_iret (st := []) dX9_take_57 rfl ⟨_, rfl, rfl, f1, f2⟩
  · refine zw_tableOut 58 dX9_take_4 (by omega) h_4 (by decide) ?_
    refine zw_aload_n 59 rfl dX9_take_58 rfl ?_
    refine zw_aload_n 60 rfl dX9_take_59 rfl ?_
    refine zw_cVr1 63 rfl dX9_take_60 kX9_take_54 (Nat.le_of_ble_eq_true rfl) (by first | assumption | exact zx_o0 | exact zx_o _ _ _ rfl) (c_takeRow hr hs h4 hkd (by omega)) ?_
    rintro _ _ ⟨σ2, rfl, rfl, f1, f2⟩
    exact zw_iret (st := []) dX9_take_63 rfl ⟨_, rfl, rfl, f1, f2⟩
/-- a text read: the fault, where the latest token starts, what was read -/
def zRun (t : Nat → Int) (n : Nat) : Nat → zRd → Int → Int × Int × zRd
  | 0, r, s => (0, s, r)
  | f + 1, r, s => if r.1 = 5 then (0, s, r) else if (zStep t r (zTk t n r.2.1)).1 = 0 then zRun t n f (zStep t r (zTk t n r.2.1)).2 (zTk t n r.2.1).1 else ((zStep t r (zTk t n r.2.1)).1, (zTk t n r.2.1).1, r)
theorem zRun_s {t : Nat → Int} {n f : Nat} {r : zRd} {s s' : Int} (h : ¬ r.1 = 5) : zRun t n (f + 1) r s = zRun t n (f + 1) r s' := by
  simp only [zRun, if_neg h]
theorem zStep_r (t : Nat → Int) (r : zRd) (K : zTok) : 0 ≤ (zStep t r K).1 ∧ (zStep t r K).1 ≤ 4 := by
  unfold zStep zRf
  (repeat' split) <;> dsimp only <;> (repeat' split) <;> omega
def xFQ (B : Nat) (σ1 τ : zSt) (n : Nat) (q : Int × Int × zRd) : Option Value → zWd → Prop := fun v w => ∃ σ' : zSt, w = (zxS B, σ', τ) ∧ v = some (vi q.1) ∧ (∀ b, (b < B + 29 ∨ b = B + 30 ∨ B + 44 ≤ b) → σ' b = σ1 b) ∧ σ' (B + 29) 5 = q.2.1 ∧ (q.1 = 0 → xRd B σ1 n q.2.2 σ')
theorem xRd.tok {B n : Nat} {σ1 σ σ2 : zSt} {r : zRd} {K : zTok} (hr : xRd B σ1 n r σ) (f1 : ∀ b, b ≠ B + 29 → σ2 b = σ b) (f2 : ∀ j, j < 3 → σ2 (B + 29) j = σ (B + 29) j) (f3 : σ2 (B + 29) 3 = K.2.1) (hk : K.2.1 ≤ n) : xRd B σ1 n (r.1, K.2.1, r.2.2.1, r.2.2.2) σ2 := by
  obtain ⟨g0, g1, g2, g3, g4, g5, g6, g7, g8⟩ := hr
  refine ⟨fun b hb => by rw [f1 b (by omega)]; exact g0 b hb, by rw [f2 1 (by omega)]; exact g1, by rw [f2 2 (by omega)]; exact g2, ⟨f3, hk⟩, by rw [f1 _ (by omega)]; exact g4, ?_, fun p hp hq => ?_, g7, g8⟩
  · unfold xNm
    rw [f1 _ (by omega), f1 _ (by omega), f1 _ (by omega)]
    exact g5
  · have t := g6 p hp hq
    exact ⟨t.1.c (f1 _ (by simp only [zra]; omega)) (f1 _ (by simp only [zra]; omega)), t.2⟩
theorem c_faultOf {G : zG} {B n : Nat} {σ1 τ : zSt} {m : Int} (hm : σ1 (B + 29) 1 = m) (hn : (n : Int) ≤ m) (hm7 : m ≤ 700) (hb : ∀ i, i < n → 0 ≤ σ1 (B + 30) i ∧ σ1 (B + 30) i ≤ 255) : zC G M_X9_faultOf [.ref (B + 31), .ref (B + 29), vi n] (zxS B, σ1, τ) (xFQ B σ1 τ n (zRun (σ1 (B + 30)) n 701 (0, 0, [], fun _ => (0, 0, fun _ _ => 0)) 0)) := by
  refine zC_of 2 rfl (Nat.le_of_ble_eq_true rfl) ?_
  generalize hR : zRun (σ1 (B + 30)) n 701 (0, 0, [], fun _ => (0, 0, fun _ _ => 0)) 0 = R
  have bad : ∀ (v : Int) (k : Nat) (σs : zSt), v ≠ 0 → (0 ≤ v ∧ v ≤ 4) → k ≤ 701 → v = R.1 → (∀ b, (b < B + 29 ∨ b = B + 30 ∨ B + 44 ≤ b) → σs b = σ1 b) → σs (B + 29) 5 = R.2.1 → zW G M_X9_faultOf (xFQ B σ1 τ n R) 23 [some (.ref (B + 31)), some (.ref (B + 29)), some (vi n), some (vi v), some (vi k)] [] (zxS B, σs, τ) := by
    intro v k σs hv hvr hk e1 f0 f5
    refine zw_iload 25 rfl dX9_faultOf_23 rfl ?_
    refine zw_sipush 28 rfl dX9_faultOf_25 rfl ?_
    refine zw_icmp_gt 59 31 rfl dX9_faultOf_28 (by decide) (by omega) (by omega) (fun h_28 => ?_) (fun h_28 => ?_)
    · refine zw_iload_n 60 rfl dX9_faultOf_59 rfl ?_
      exact zw_iret (st := []) dX9_faultOf_60 rfl ⟨_, rfl, by rw [e1], f0, f5, fun z => by omega⟩
    · refine zw_iload_n 32 rfl dX9_faultOf_31 rfl ?_
      refine zw_if_ne 59 35 rfl dX9_faultOf_32 (by decide) (by omega) (fun h_32 => ?_) (fun h_32 => ?_)
      · refine zw_iload_n 60 rfl dX9_faultOf_59 rfl ?_
        exact zw_iret (st := []) dX9_faultOf_60 rfl ⟨_, rfl, by rw [e1], f0, f5, fun z => by omega⟩
      · omega
  have loop : ∀ (f k : Nat) (r : zRd) (s : Int) (σs : zSt), f + k = 701 → zRun (σ1 (B + 30)) n f r s = R → σs (B + 29) 5 = s → xRd B σ1 n r σs → zW G M_X9_faultOf (xFQ B σ1 τ n R) 23 [some (.ref (B + 31)), some (.ref (B + 29)), some (vi n), some (vi 0), some (vi k)] [] (zxS B, σs, τ) := by
    intro f
    induction f with
    | zero =>
      intro k r s σs hk he h5 hr
      rw [zRun] at he
      refine zw_iload 25 rfl dX9_faultOf_23 rfl ?_
      refine zw_sipush 28 rfl dX9_faultOf_25 rfl ?_
      refine zw_icmp_gt 59 31 rfl dX9_faultOf_28 (by decide) (by omega) (by omega) (fun h_28 => ?_) (fun h_28 => ?_)
      · refine zw_iload_n 60 rfl dX9_faultOf_59 rfl ?_
        exact zw_iret (st := []) dX9_faultOf_60 rfl ⟨_, rfl, by rw [← he], hr.1, by rw [← he]; exact h5, fun _ => by rw [← he]; exact hr⟩
      · omega
    | succ f ih =>
      intro k r s σs hk he h5 hr
      rw [zRun] at he
      have g4 := hr.2.2.2.2.1
      have g7 := hr.2.2.2.2.2.2.2.1
      have e30 : σs (B + 30) = σ1 (B + 30) := hr.1 _ (by omega)
      have hpn := hr.2.2.2.1.2
      have tk := zTk_ok (σ1 (B + 30)) hpn
      have hnt := c_nextToken (G := G) (τ := τ) (σ := σs) hr.2.2.1 hr.2.2.2.1.1 hpn (by omega) (fun i hi => by rw [e30]; exact hb i hi)
      rw [e30] at hnt
      have hst := zStep_r (σ1 (B + 30)) r (zTk (σ1 (B + 30)) n r.2.1)
      generalize zTk (σ1 (B + 30)) n r.2.1 = K at *
      refine zw_iload 25 rfl dX9_faultOf_23 rfl ?_
      refine zw_sipush 28 rfl dX9_faultOf_25 rfl ?_
      refine zw_icmp_gt 59 31 rfl dX9_faultOf_28 (by decide) (by omega) (by omega) (fun h_28 => ?_) (fun h_28 => ?_)
      · refine zw_iload_n 60 rfl dX9_faultOf_59 rfl ?_
        first | (exfalso; omega) | (rw [if_pos h_40] at he; exact zw_iret (st := []) dX9_faultOf_60 rfl ⟨_, rfl, by rw [← he], hr.1, by rw [← he]; exact h5, fun _ => by rw [← he]; exact hr⟩)
      · refine zw_iload_n 32 rfl dX9_faultOf_31 rfl ?_
        refine zw_if_ne 59 35 rfl dX9_faultOf_32 (by decide) (by omega) (fun h_32 => ?_) (fun h_32 => ?_)
        · refine zw_iload_n 60 rfl dX9_faultOf_59 rfl ?_
          first | (exfalso; omega) | (rw [if_pos h_40] at he; exact zw_iret (st := []) dX9_faultOf_60 rfl ⟨_, rfl, by rw [← he], hr.1, by rw [← he]; exact h5, fun _ => by rw [← he]; exact hr⟩)
        · refine zw_aload_n 36 rfl dX9_faultOf_35 rfl ?_
          refine zw_geti 39 rfl dX9_faultOf_36 fl_X9_29 (by first | assumption | exact zx_o0 | exact zx_o _ _ _ rfl) ?_
          rw [g4]
          refine zw_iconst 40 rfl dX9_faultOf_39 ?_
          refine zw_icmp_eq 59 43 rfl dX9_faultOf_40 (by decide) (by omega) (by omega) (fun h_40 => ?_) (fun h_40 => ?_)
          · refine zw_iload_n 60 rfl dX9_faultOf_59 rfl ?_
            first | (exfalso; omega) | (rw [if_pos h_40] at he; exact zw_iret (st := []) dX9_faultOf_60 rfl ⟨_, rfl, by rw [← he], hr.1, by rw [← he]; exact h5, fun _ => by rw [← he]; exact hr⟩)
          · refine zw_aload_n 44 rfl dX9_faultOf_43 rfl ?_
            refine zw_cVr0 47 rfl dX9_faultOf_44 kX9_faultOf_38 (Nat.le_of_ble_eq_true rfl) (by first | assumption | exact zx_o0 | exact zx_o _ _ _ rfl) hnt ?_
            rintro _ _ ⟨rfl, σ2, rfl, f1, f2, f3, f4, f5, f6⟩
            have hx2 : xRd B σ1 n (r.1, K.2.1, r.2.2.1, r.2.2.2) σ2 := hr.tok f1 f2 f3 tk.1.2.2
            have hs2 : xTS B σ2 K.1 K.2.2.2 := ⟨f5, f6, by omega, fun j hj => by rw [f1 (B + 30) (by omega), e30]; exact tk.2.2.1 j hj⟩
            have e302 : σ2 (B + 30) = σ1 (B + 30) := by rw [f1 (B + 30) (by omega), e30]
            have htk := c_take (G := G) (τ := τ) hx2 hs2 f4 tk.2.2.2 h_40
            rw [e302] at htk
            refine zw_aload_n 48 rfl dX9_faultOf_47 rfl ?_
            refine zw_aload_n 49 rfl dX9_faultOf_48 rfl ?_
            refine zw_cVr1 52 rfl dX9_faultOf_49 kX9_faultOf_41 (Nat.le_of_ble_eq_true rfl) (by first | assumption | exact zx_o0 | exact zx_o _ _ _ rfl) htk ?_
            rintro _ _ ⟨σ3, rfl, rfl, q1, q2⟩
            rw [if_neg h_40] at he
            refine zw_istore_n 53 rfl dX9_faultOf_52 (Nat.le_of_ble_eq_true rfl) rfl ?_
            refine zw_iinc 56 rfl dX9_faultOf_53 (Nat.le_of_ble_eq_true rfl) rfl rfl ?_
            refine zw_goto 23 dX9_faultOf_56 (by decide) ?_
            by_cases z : (zStep (σ1 (B + 30)) r K).1 = 0
            · rw [if_pos z] at he
              rw [z]
              exact ih (k + 1) _ K.1 σ3 (by omega) he (by rw [q1 _ (by omega)]; exact f5) (q2 z)
            · rw [if_neg z] at he
              exact bad _ (k + 1) σ3 z hst (by omega) (by rw [← he]) (fun b hb => by rw [q1 b (by omega), f1 b (by omega)]; exact hr.1 b hb) (by rw [q1 _ (by omega), ← he]; exact f5)
  refine zw_aload_n 1 rfl dX9_faultOf_0 rfl ?_
  refine zw_getr 4 rfl dX9_faultOf_1 fl_X9_20 (by first | assumption | exact zx_o0 | exact zx_o _ _ _ rfl) (by first | assumption | exact zx_f0 _ _ rfl | exact zx_f _ _ _ rfl) ?_
  refine zw_iconst 5 rfl dX9_faultOf_4 ?_
  refine zw_puti 8 rfl dX9_faultOf_5 fp_X9_25 (by first | assumption | exact zx_o0 | exact zx_o _ _ _ rfl) ?_
  refine zw_aload_n 9 rfl dX9_faultOf_8 rfl ?_
  refine zw_iconst 10 rfl dX9_faultOf_9 ?_
  refine zw_puti 13 rfl dX9_faultOf_10 fp_X9_29 (by first | assumption | exact zx_o0 | exact zx_o _ _ _ rfl) ?_
  refine zw_aload_n 14 rfl dX9_faultOf_13 rfl ?_
  refine zw_iload_n 15 rfl dX9_faultOf_14 rfl ?_
  refine zw_cVv1 18 rfl dX9_faultOf_15 kX9_faultOf_32 (Nat.le_of_ble_eq_true rfl) (by first | assumption | exact zx_o0 | exact zx_o _ _ _ rfl) (c_beginText (m := m) (by rw [zu_row _ _ (by omega), zu_row _ _ (by omega)]; exact hm) (by omega) hm7) ?_
  refine zw_iconst 19 rfl dX9_faultOf_18 ?_
  refine zw_istore_n 20 rfl dX9_faultOf_19 (Nat.le_of_ble_eq_true rfl) rfl ?_
  refine zw_iconst 21 rfl dX9_faultOf_20 ?_
  refine zw_istore 23 rfl dX9_faultOf_21 (Nat.le_of_ble_eq_true rfl) rfl ?_
  exact loop 701 0 (0, 0, [], fun _ => (0, 0, fun _ _ => 0)) (σ1 (B + 29) 5) _ rfl (by rw [← hR]; exact zRun_s (f := 700) (by show ¬ (0 : Int) = 5; omega)) (by simp [zu]) ⟨fun b hb => by rw [zu_row _ _ (by omega), zu_row _ _ (by omega), zu_row _ _ (by omega), zu_row _ _ (by omega)], by simp [zu], by simp [zu], ⟨by simp [zu], Nat.zero_le _⟩, by simp [zu], ⟨by simp [zu], by simp, fun p hp => by simp at hp⟩, fun p hp => by simp at hp, by show (0 : Int) ≤ 0 ∧ (0 : Int) ≤ 5; omega, fun _ => by simp, fun z => absurd (show (2 : Int) ≤ 0 from z) (by omega)⟩
