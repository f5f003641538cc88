/-! ===== only the bytes of the text count ===== -/
theorem zsp_c {t t' : Nat → Int} {n : Nat} (h : ∀ i, i < n → t i = t' i) : ∀ (f p : Nat), zsp t n f p = zsp t' n f p
  | 0, _ => rfl
  | f + 1, p => by
    simp only [zsp]
    by_cases q : p < n
    · rw [h p q, zsp_c h f (p + 1)]
    · rw [if_neg (fun z => q z.1), if_neg (fun z => q z.1)]
theorem zle_c {t t' : Nat → Int} {n : Nat} (h : ∀ i, i < n → t i = t' i) : ∀ (f p : Nat), zle t n f p = zle t' n f p
  | 0, _ => rfl
  | f + 1, p => by
    simp only [zle]
    by_cases q : p < n
    · rw [h p q, zle_c h f (p + 1)]
    · rw [if_neg (fun z => q z.1), if_neg (fun z => q z.1)]
theorem zTk_c {t t' : Nat → Int} {n : Nat} (h : ∀ i, i < n → t i = t' i) (p : Nat) : zTk t n p = zTk t' n p := by
  unfold zTk
  rw [zsp_c h, zle_c h]
  split
  · rfl
  · split
    · rfl
    · rename_i q
      rw [h _ (by omega)]
theorem zWo_c {t t' : Nat → Int} {n s wl : Nat} (h : ∀ i, i < n → t i = t' i) (hs : s + wl ≤ n) : zWo t s wl = zWo t' s wl :=
  zWo_e (zWo_l t s wl) (fun k hk => by rw [zWo_g hk, h _ (by omega)])
theorem zStep_c {t t' : Nat → Int} {n : Nat} {r : zRd} {K : zTok} (h : ∀ i, i < n → t i = t' i) (hs : K.1 + K.2.2.2 ≤ n) : zStep t r K = zStep t' r K := by
  unfold zStep
  have e1 : zRf (zP0 r K.2.2.2) t K.1 K.2.2.2 = zRf (zP0 r K.2.2.2) t' K.1 K.2.2.2 := by
    unfold zRf
    have : zRw t K.1 K.2.2.2 ↔ zRw t' K.1 K.2.2.2 := ⟨fun q k hk => by rw [← h _ (by omega)]; exact q k hk, fun q k hk => by rw [h _ (by omega)]; exact q k hk⟩
    simp only [this]
  have e2 : aRow (zP0 r K.2.2.2) t K.1 K.2.2.2 = aRow (zP0 r K.2.2.2) t' K.1 K.2.2.2 := by
    unfold aRow
    congr 2
    funext x y
    split
    · split
      · rw [h _ (by omega)]
      · rfl
    · rfl
  rw [zWo_c h hs, e1, e2]
theorem zStep_p {t : Nat → Int} {r : zRd} {K : zTok} (h : (zStep t r K).1 = 0) : (zStep t r K).2.2.1 = K.2.1 ∧ (K.2.2.1 = 0 → (zStep t r K).2.1 = 5) := by
  revert h
  unfold zStep
  (repeat' split) <;> dsimp only <;> intro h <;> (first | (exfalso; omega) | exact ⟨rfl, fun z => by omega⟩ | exact ⟨rfl, fun _ => rfl⟩)
theorem zTk_adv (t : Nat → Int) {n p : Nat} (hp : p ≤ n) (h : (zTk t n p).2.2.1 ≠ 0) : p < (zTk t n p).2.1 := by
  have h1 := zsp_r t n (n - p) p hp
  revert h
  unfold zTk
  generalize zsp t n (n - p) p = s at *
  split
  · dsimp only; omega
  · split
    · dsimp only; omega
    · dsimp only; omega
theorem zRun_c {t t' : Nat → Int} {n : Nat} (h : ∀ i, i < n → t i = t' i) : ∀ (f : Nat) (r : zRd) (s : Int), r.2.1 ≤ n → zRun t n f r s = zRun t' n f r s
  | 0, _, _, _ => rfl
  | f + 1, r, s, hp => by
    have ok := zTk_ok t' hp
    simp only [zRun]
    rw [zTk_c h, zStep_c h ok.2.1]
    by_cases q : r.1 = 5
    · rw [if_pos q, if_pos q]
    · rw [if_neg q, if_neg q]
      by_cases z : (zStep t' r (zTk t' n r.2.1)).1 = 0
      · rw [if_pos z, if_pos z]
        exact zRun_c h f _ _ (by rw [(zStep_p z).1]; exact ok.1.2.2)
      · rw [if_neg z, if_neg z]
theorem zRun_5 {t : Nat → Int} {n : Nat} : ∀ (f : Nat) (r : zRd) (s : Int), r.2.1 ≤ n → (r.1 = 5 ∨ n - r.2.1 + 1 ≤ f) → (zRun t n f r s).1 = 0 → (zRun t n f r s).2.2.1 = 5
  | 0, r, s, hp, hf, _ => by
    simp only [zRun]
    rcases hf with q | q
    · exact q
    · omega
  | f + 1, r, s, hp, hf, h0 => by
    have ok := zTk_ok t hp
    simp only [zRun] at h0 ⊢
    by_cases q : r.1 = 5
    · rw [if_pos q]; exact q
    · rw [if_neg q] at h0 ⊢
      by_cases z : (zStep t r (zTk t n r.2.1)).1 = 0
      · rw [if_pos z] at h0 ⊢
        have zp := zStep_p z
        refine zRun_5 f _ _ (by rw [zp.1]; exact ok.1.2.2) ?_ h0
        by_cases w : (zTk t n r.2.1).2.2.1 = 0
        · exact Or.inl (zp.2 w)
        · have := zTk_adv t hp w
          rw [zp.1]; right; omega
      · rw [if_neg z] at h0; exact absurd h0 z
theorem zRun_r {t : Nat → Int} {n : Nat} : ∀ (f : Nat) (r : zRd) (s : Int), 0 ≤ (zRun t n f r s).1 ∧ (zRun t n f r s).1 ≤ 4
  | 0, r, s => by simp [zRun]
  | f + 1, r, s => by
    have := zStep_r t r (zTk t n r.2.1)
    simp only [zRun]
    split
    · dsimp only; omega
    · split
      · exact zRun_r f _ _
      · exact this
