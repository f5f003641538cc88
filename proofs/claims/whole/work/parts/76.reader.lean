/-! ===== reading a text, token by token ===== -/
/-- what is wanted (0 pic, 1 a name, 2 the first row, 3 a row, 4 a mark, 5 nothing), where the next token is looked for, names, pictures -/
abbrev zRd : Type := Int × Nat × List (List Int) × (Nat → zPc)
def zP0 (r : zRd) (wl : Nat) : zPc := if r.1 = 2 then ((wl : Int), 0, fun _ _ => 0) else r.2.2.2 (r.2.2.1.length - 1)
def zStep (t : Nat → Int) (r : zRd) (K : zTok) : Int × zRd :=
  if r.1 = 0 then (if K.2.2.1 = 1 ∧ zWo t K.1 K.2.2.2 = [15, 8, 2] then ((if r.2.2.1.length < 4 then 0 else 4), (1, K.2.1, r.2.2.1, r.2.2.2)) else (1, r))
  else if r.1 = 1 then (if K.2.2.1 = 1 then (if zWo t K.1 K.2.2.2 ∈ r.2.2.1 then (3, r) else (0, (2, K.2.1, r.2.2.1 ++ [zWo t K.1 K.2.2.2], r.2.2.2))) else (1, r))
  else if r.1 = 4 then (if K.2.2.1 = 2 then (0, (3, K.2.1, r.2.2.1, r.2.2.2)) else if K.2.2.1 = 3 then (0, (0, K.2.1, r.2.2.1, r.2.2.2)) else if K.2.2.1 = 0 then (0, (5, K.2.1, r.2.2.1, r.2.2.2)) else (1, r))
  else (if K.2.2.1 = 1 then (zRf (zP0 r K.2.2.2) t K.1 K.2.2.2, (4, K.2.1, r.2.2.1, va_up r.2.2.2 (r.2.2.1.length - 1) (aRow (zP0 r K.2.2.2) t K.1 K.2.2.2))) else (1, r))
theorem zle_l {t : Nat → Int} {n : Nat} : ∀ (f p k : Nat), p ≤ k → k < zle t n f p → 97 ≤ t k ∧ t k ≤ 122
  | 0, p, k, h1, h2 => by simp only [zle] at h2; omega
  | f + 1, p, k, h1, h2 => by
    simp only [zle] at h2
    split at h2
    · rename_i q
      by_cases e : k = p
      · subst e; exact q.2
      · exact zle_l f (p + 1) k (by omega) h2
    · omega
theorem zTk_ok (t : Nat → Int) {n p : Nat} (hp : p ≤ n) : (p ≤ (zTk t n p).1 ∧ (zTk t n p).1 ≤ (zTk t n p).2.1 ∧ (zTk t n p).2.1 ≤ n) ∧ (zTk t n p).1 + (zTk t n p).2.2.2 ≤ n ∧ (∀ k, k < (zTk t n p).2.2.2 → 97 ≤ t ((zTk t n p).1 + k) ∧ t ((zTk t n p).1 + k) ≤ 122) ∧ (0 ≤ (zTk t n p).2.2.1 ∧ (zTk t n p).2.2.1 ≤ 4) ∧ ((zTk t n p).2.2.1 = 1 → 1 ≤ (zTk t n p).2.2.2 ∧ (zTk t n p).2.2.2 ≤ 16) := by
  have h1 := zsp_r t n (n - p) p hp
  unfold zTk
  generalize zsp t n (n - p) p = s at *
  have h2 := zle_r t n (n - s) s h1.2
  have h3 := fun k => zle_l (t := t) (n := n) (n - s) s k
  generalize zle t n (n - s) s = e at *
  split
  · dsimp only
    refine ⟨by omega, by omega, fun k hk => h3 (s + k) (by omega) (by omega), by split <;> omega, fun q => ?_⟩
    split at q
    · omega
    · omega
  · split
    · dsimp only
      exact ⟨by omega, by omega, fun k hk => by omega, by omega, fun q => by omega⟩
    · dsimp only
      refine ⟨by omega, by omega, fun k hk => by omega, by (repeat' split) <;> omega, fun q => ?_⟩
      revert q; (repeat' split) <;> omega
/-- how the reader holds it -/
def xRd (B : Nat) (σ1 : zSt) (n : Nat) (r : zRd) (σ : zSt) : Prop := (∀ b, (b < B + 29 ∨ b = B + 30 ∨ B + 44 ≤ b) → σ b = σ1 b) ∧ σ (B + 29) 1 = σ1 (B + 29) 1 ∧ σ (B + 29) 2 = n ∧ (σ (B + 29) 3 = r.2.1 ∧ r.2.1 ≤ n) ∧ σ (B + 31) 2 = r.1 ∧ xNm σ (B + 33) r.2.2.1 ∧ (∀ p, p < r.2.2.1.length → (r.1 = 2 → p + 1 < r.2.2.1.length) → xrPic σ (zra B p) (r.2.2.2 p) ∧ 0 < (r.2.2.2 p).1) ∧ (0 ≤ r.1 ∧ r.1 ≤ 5) ∧ ((r.1 = 1 → r.2.2.1.length < 4) ∧ (2 ≤ r.1 → 1 ≤ r.2.2.1.length))
def xTQ (B : Nat) (σ1 σ τ : zSt) (n : Nat) (q : Int × zRd) : Option Value → zWd → Prop := fun v w => ∃ σ' : zSt, w = (zxS B, σ', τ) ∧ v = some (vi q.1) ∧ (∀ b, (b < B + 31 ∨ B + 44 ≤ b) → σ' b = σ b) ∧ (q.1 = 0 → xRd B σ1 n q.2 σ')
theorem c_takePic {G : zG} {B n : Nat} {σ σ1 τ : zSt} {r : zRd} {K : zTok} (hr : xRd B σ1 n (r.1, K.2.1, r.2.2.1, r.2.2.2) σ) (hs : xTS B σ K.1 K.2.2.2) (h4 : σ (B + 29) 4 = K.2.2.1) (hkd : (0 ≤ K.2.2.1 ∧ K.2.2.1 ≤ 4) ∧ (K.2.2.1 = 1 → 1 ≤ K.2.2.2 ∧ K.2.2.2 ≤ 16)) (hw : r.1 = 0) : zC G M_X9_takePic [.ref (B + 31), .ref (B + 29)] (zxS B, σ, τ) (xTQ B σ1 σ τ n (zStep (σ (B + 30)) r K)) := by
  obtain ⟨g0, g1, g2, g3, g4, g5, g6, g7, g8⟩ := id hr
  have g5a := g5.1
  have g5b := g5.2.1
  dsimp only at g1 g2 g3 g4 g5 g6 g7 g8 g5a g5b
  refine zC_of 0 rfl (Nat.le_of_ble_eq_true rfl) ?_
  unfold zStep
  rw [if_pos hw]
  refine zw_aload_n 1 rfl dX9_takePic_0 rfl ?_
  refine zw_cVi0 4 rfl dX9_takePic_1 kX9_takePic_57 (Nat.le_of_ble_eq_true rfl) (by first | assumption | exact zx_o0 | exact zx_o _ _ _ rfl) (c_isPic hs h4 hkd.1) ?_
  refine zw_if_neB 9 7 rfl dX9_takePic_4 (by decide) (fun h_4 => ?_) (fun h_4 => ?_)
  · rw [if_pos h_4]
    refine zw_aload_n 10 rfl dX9_takePic_9 rfl ?_
    refine zw_iconst 11 rfl dX9_takePic_10 ?_
    refine zw_puti 14 rfl dX9_takePic_11 fp_X9_29 (by first | assumption | exact zx_o0 | exact zx_o _ _ _ rfl) ?_
    refine zw_aload_n 15 rfl dX9_takePic_14 rfl ?_
    refine zw_getr 18 rfl dX9_takePic_15 fl_X9_20 (by first | assumption | exact zx_o0 | exact zx_o _ _ _ rfl) (by first | assumption | exact zx_f0 _ _ rfl | exact zx_f _ _ _ rfl) ?_
    refine zw_geti 21 rfl dX9_takePic_18 fl_X9_25 (by first | assumption | exact zx_o0 | exact zx_o _ _ _ rfl) ?_
    rw [zu_row _ _ (by omega), g5a]
    refine zw_iconst 22 rfl dX9_takePic_21 ?_
    refine zw_icmp_ge 29 25 rfl dX9_takePic_22 (by decide) (by omega) (by omega) (fun h_22 => ?_) (fun h_22 => ?_)
    · refine zw_iconst 30 rfl dX9_takePic_29 ?_
      refine zw_iret (st := []) dX9_takePic_30 rfl ⟨_, rfl, by first | rw [if_pos (by omega)] | rw [if_neg (by omega)], fun b hb => by rw [zu_row _ _ (by omega)], fun q => ⟨fun b hb => by rw [zu_row _ _ (by omega)]; exact g0 b hb, by rw [zu_row _ _ (by omega)]; exact g1, by rw [zu_row _ _ (by omega)]; exact g2, ⟨by rw [zu_row _ _ (by omega)]; exact g3.1, g3.2⟩, zu_eq _ _ _ _, ?_, fun p hp hq => ?_, by show (0 : Int) ≤ 1 ∧ (1 : Int) ≤ 5; omega, fun _ => ?_, fun z => ?_⟩⟩
      · unfold xNm; rw [zu_row _ _ (by omega), zu_row _ _ (by omega), zu_row _ _ (by omega)]; exact g5
      · have t := g6 p hp (fun z => by omega)
        exact ⟨t.1.c (by rw [zu_row _ _ (by simp only [zra]; omega)]) (by rw [zu_row _ _ (by simp only [zra]; omega)]), t.2⟩
      · dsimp only at q; apply Decidable.byContradiction; intro z; rw [if_neg z] at q; omega
      · exact absurd z (by show ¬ (2 : Int) ≤ 1; omega)
    · refine zw_iconst 26 rfl dX9_takePic_25 ?_
      refine zw_goto 30 dX9_takePic_26 (by decide) ?_
      refine zw_iret (st := []) dX9_takePic_30 rfl ⟨_, rfl, by first | rw [if_pos (by omega)] | rw [if_neg (by omega)], fun b hb => by rw [zu_row _ _ (by omega)], fun q => ⟨fun b hb => by rw [zu_row _ _ (by omega)]; exact g0 b hb, by rw [zu_row _ _ (by omega)]; exact g1, by rw [zu_row _ _ (by omega)]; exact g2, ⟨by rw [zu_row _ _ (by omega)]; exact g3.1, g3.2⟩, zu_eq _ _ _ _, ?_, fun p hp hq => ?_, by show (0 : Int) ≤ 1 ∧ (1 : Int) ≤ 5; omega, fun _ => ?_, fun z => ?_⟩⟩
      · unfold xNm; rw [zu_row _ _ (by omega), zu_row _ _ (by omega), zu_row _ _ (by omega)]; exact g5
      · have t := g6 p hp (fun z => by omega)
        exact ⟨t.1.c (by rw [zu_row _ _ (by simp only [zra]; omega)]) (by rw [zu_row _ _ (by simp only [zra]; omega)]), t.2⟩
      · dsimp only at q; apply Decidable.byContradiction; intro z; rw [if_neg z] at q; omega
      · exact absurd z (by show ¬ (2 : Int) ≤ 1; omega)
  · refine zw_iconst 8 rfl dX9_takePic_7 ?_
    rw [if_neg h_4]
    exact zw_iret (st := []) dX9_takePic_8 rfl ⟨_, rfl, rfl, fun _ _ => rfl, fun q => by omega⟩
