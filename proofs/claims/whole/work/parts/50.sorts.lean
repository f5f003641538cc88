/-! ===== how often a number comes in a row; sorted rows ===== -/
def zct (f : Nat → Int) (n : Nat) (v : Int) : Int := zS (fun j => if f j = v then 1 else 0) n
def zct' (f : Nat → Int) (n : Nat) (c : Nat) : Int := zct f n c
theorem zct_s (f : Nat → Int) (n : Nat) (v : Int) : zct f (n + 1) v = zct f n v + if f n = v then 1 else 0 := rfl
theorem zct_c {f g : Nat → Int} {n : Nat} (h : ∀ j, j < n → f j = g j) (v : Int) : zct f n v = zct g n v := zS_c n (fun j hj => by rw [h j hj])
theorem zct_up {f : Nat → Int} {n k : Nat} (u v : Int) (hk : k < n) : zct (fun j => if j = k then u else f j) n v = zct f n v + ((if u = v then 1 else 0) - (if f k = v then 1 else 0)) := by
  unfold zct
  rw [zS_pt (f := fun j => if (if j = k then u else f j) = v then (1 : Int) else 0) (g := fun j => if f j = v then (1 : Int) else 0) (k := k) n hk (fun i hi => by rw [if_neg hi])]
  simp
/-- two places change -/
theorem zct_sw {f : Nat → Int} {n i j : Nat} (u v : Int) (hi : i < n) (hj : j < n) (hij : i ≠ j) (hu : f i = u) : zct (fun k => if k = j then u else if k = i then f j else f k) n v = zct f n v := by
  rw [zct_up (f := fun k => if k = i then f j else f k) u v hj, zct_up (f j) v hi]
  simp only [if_neg (Ne.symm hij)]
  rw [hu]
  omega
theorem zct_n (f : Nat → Int) (n : Nat) (v : Int) : 0 ≤ zct f n v ∧ zct f n v ≤ n := by
  unfold zct
  have h1 := zS_le (f := fun _ => 0) (g := fun j => if f j = v then (1 : Int) else 0) n (fun j _ => by split <;> omega)
  have h2 := zS_le (f := fun j => if f j = v then (1 : Int) else 0) (g := fun _ => 1) n (fun j _ => by split <;> omega)
  rw [zS_k] at h1 h2
  omega
def zsrt (f : Nat → Int) (n : Nat) : Prop := ∀ i j, i ≤ j → j < n → f i ≤ f j
/-- how many are below u -/
def zlt (f : Nat → Int) (n : Nat) (u : Int) : Int := zS (fun j => if f j < u then 1 else 0) n
theorem zlt_s (f : Nat → Int) (n : Nat) (u : Int) : zlt f n (u + 1) = zlt f n u + zct f n u := by
  unfold zlt zct
  induction n with
  | zero => rfl
  | succ n ih => rw [zS_s, zS_s, zS_s, ih]; (repeat' split) <;> omega
theorem zS_split (f : Nat → Int) (m : Nat) : ∀ n, zS f (m + n) = zS f m + zS (fun i => f (m + i)) n
  | 0 => by rw [Nat.add_zero, zS_0]; omega
  | n + 1 => by rw [← Nat.add_assoc, zS_s, zS_s, zS_split f m n]; omega
theorem zlt_srt {f : Nat → Int} {n k : Nat} {u : Int} (h : zsrt f n) (hk : k < n) : (k : Int) < zlt f n u ↔ f k < u := by
  have hsp : zlt f n u = zS (fun j => if f j < u then 1 else 0) (k + 1) + zS (fun i => if f (k + 1 + i) < u then (1 : Int) else 0) (n - (k + 1)) := by
    unfold zlt
    rw [← zS_split (fun j => if f j < u then (1 : Int) else 0) (k + 1) (n - (k + 1)), show k + 1 + (n - (k + 1)) = n by omega]
  constructor
  · intro hlt
    apply Decidable.byContradiction
    intro hn
    have z1 : zS (fun i => if f (k + 1 + i) < u then (1 : Int) else 0) (n - (k + 1)) = 0 := by
      rw [zS_c (g := fun _ => 0) _ (fun i hi => by rw [if_neg (by have := h k (k + 1 + i) (by omega) (by omega); omega)]), zS_k]; simp
    have z2 := zS_le (f := fun j => if f j < u then (1 : Int) else 0) (g := fun _ => 1) k (fun j _ => by split <;> omega)
    rw [zS_k] at z2
    rw [hsp, z1, zS_s, if_neg hn] at hlt
    omega
  · intro hlt
    have z1 : zS (fun j => if f j < u then (1 : Int) else 0) (k + 1) = ((k + 1 : Nat) : Int) * 1 := by
      rw [zS_c (g := fun _ => 1) _ (fun i hi => by rw [if_pos (by have := h i k (by omega) hk; omega)]), zS_k]
    have z2 := zS_le (f := fun _ => 0) (g := fun i => if f (k + 1 + i) < u then (1 : Int) else 0) (n - (k + 1)) (fun j _ => by split <;> omega)
    rw [zS_k] at z2
    rw [hsp, z1]
    omega
/-- a sorted row is told by how often each number comes -/
theorem zsrt_rk {f : Nat → Int} {n k : Nat} (h : zsrt f n) (hk : k < n) : ∀ (m : Nat) (u : Nat), (u : Int) ≤ f k → f k < (u : Int) + m → zrk (fun c => zct f n c) m u ((k : Int) - zlt f n u) = f k
  | 0, u, h1, h2 => by omega
  | m + 1, u, h1, h2 => by
    have e1 := zlt_s f n u
    have e2 := zlt_srt (u := (u : Int) + 1) h hk
    simp only [zrk]
    split
    · rename_i q
      have : f k < (u : Int) + 1 := e2.mp (by omega)
      omega
    · rename_i q
      have : ¬ f k < (u : Int) + 1 := fun r => by have := e2.mpr r; omega
      have ih := zsrt_rk h hk m (u + 1) (by omega) (by omega)
      rw [show ((k : Int) - zlt f n u - zct f n u) = (k : Int) - zlt f n ((u + 1 : Nat) : Int) by rw [show (((u + 1 : Nat) : Int)) = (u : Int) + 1 by omega, e1]; omega]
      exact ih
theorem zlt_0 {f : Nat → Int} {n : Nat} (h : ∀ j, j < n → 0 ≤ f j) : zlt f n 0 = 0 := by
  unfold zlt
  rw [zS_c (g := fun _ => 0) _ (fun j hj => by rw [if_neg (by have := h j hj; omega)]), zS_k]; simp
theorem zsrt_k {f : Nat → Int} {n k M : Nat} (h : zsrt f n) (hk : k < n) (h0 : ∀ j, j < n → 0 ≤ f j ∧ f j < M) : f k = zrk (fun c => zct f n c) M 0 k := by
  have := zsrt_rk h hk M 0 (h0 k hk).1 (by have := (h0 k hk).2; omega)
  rw [show (((0 : Nat) : Int)) = 0 from rfl, zlt_0 (fun j hj => (h0 j hj).1), Int.sub_zero] at this
  exact this.symm
/-- sinking: at the place 'at' a hole, all behind it up to n are above v, all ahead are sorted -/
def zsk (f g : Nat → Int) (n a : Nat) (v : Int) : Prop := a ≤ n ∧ (∀ j, j < a → g j = f j) ∧ (∀ j, a < j → j ≤ n → g j = f (j - 1) ∧ v < g j)
theorem zsk_end {f g : Nat → Int} {n a : Nat} {v : Int} (h : zsk f g n a v) (hs : zsrt f n) (ha : a = 0 ∨ f (a - 1) ≤ v) : zsrt (fun j => if j = a then v else g j) (n + 1) := by
  obtain ⟨h1, h2, h3⟩ := h
  intro i j hij hj
  simp only
  by_cases ei : i = a
  · rw [if_pos ei]
    by_cases ej : j = a
    · rw [if_pos ej]; omega
    · rw [if_neg ej]; have := (h3 j (by omega) (by omega)).2; omega
  · rw [if_neg ei]
    by_cases ej : j = a
    · rw [if_pos ej, h2 i (by omega)]
      rcases ha with q | q
      · omega
      · have := hs i (a - 1) (by omega) (by omega); omega
    · rw [if_neg ej]
      by_cases ia : i < a
      · rw [h2 i ia]
        by_cases ja : j < a
        · rw [h2 j ja]; exact hs i j hij (by omega)
        · rw [(h3 j (by omega) (by omega)).1]; exact hs i (j - 1) (by omega) (by omega)
      · rw [(h3 i (by omega) (by omega)).1, (h3 j (by omega) (by omega)).1]; exact hs (i - 1) (j - 1) (by omega) (by omega)
theorem zsk_ct {f g : Nat → Int} {n a : Nat} {v : Int} (h : zsk f g n a v) (u : Int) : zct (fun j => if j = a then v else g j) (n + 1) u = zct f n u + if v = u then 1 else 0 := by
  obtain ⟨h1, h2, h3⟩ := h
  unfold zct
  have e1 := zS_split (fun j => if (if j = a then v else g j) = u then (1 : Int) else 0) (a + 1) (n - a)
  have e2 := zS_split (fun j => if f j = u then (1 : Int) else 0) a (n - a)
  rw [show a + 1 + (n - a) = n + 1 by omega] at e1
  rw [show a + (n - a) = n by omega] at e2
  rw [e1, e2, zS_s]
  have e3 : zS (fun j => if (if j = a then v else g j) = u then (1 : Int) else 0) a = zS (fun j => if f j = u then (1 : Int) else 0) a := zS_c _ (fun j hj => by rw [if_neg (show ¬ j = a by omega), h2 j hj])
  have e4 : zS (fun i => if (if a + 1 + i = a then v else g (a + 1 + i)) = u then (1 : Int) else 0) (n - a) = zS (fun i => if f (a + i) = u then (1 : Int) else 0) (n - a) := zS_c _ (fun i hi => by rw [if_neg (show ¬ a + 1 + i = a by omega), (h3 (a + 1 + i) (by omega) (by omega)).1, show a + 1 + i - 1 = a + i by omega])
  rw [e3, e4, if_pos rfl]
  omega
theorem zsk_step {f g : Nat → Int} {n a : Nat} {v : Int} (h : zsk f g n (a + 1) v) (hv : v < g a) : zsk f (fun j => if j = a + 1 then g a else g j) n a v := by
  obtain ⟨h1, h2, h3⟩ := h
  refine ⟨by omega, fun j hj => by simp only; rw [if_neg (by omega)]; exact h2 j (by omega), fun j hj hn => ?_⟩
  simp only
  by_cases e : j = a + 1
  · rw [if_pos e]; exact ⟨by rw [h2 a (by omega), e]; rfl, hv⟩
  · rw [if_neg e]; exact h3 j (by omega) hn
/-! ===== pairs ===== -/
def zcode (a b : Int) : Int := if a < b then 256 * a + b else 256 * b + a
def aPL (p : zPc) : List Int := zwin 0 p.1 0 p.2.1 (fun x y l => (l ++ (if x + 1 < p.1 then [zcode (p.2.2 x y) (p.2.2 (x + 1) y)] else [])) ++ (if y + 1 < p.2.1 then [zcode (p.2.2 x y) (p.2.2 x (y + 1))] else [])) []
/-- the k-th of the codes by size -/
def aPS (M : Nat) (p : zPc) (k : Nat) : Int := zrk (fun c => zct (fun j => (aPL p).getD j 0) (aPL p).length c) M 0 k
/-- run, unlike ones, the commonest, how often -/
abbrev zRu : Type := Int × Int × Int × Int
def aRuS (g : Nat → Int) (b0 : Int) (k : Nat) (s : zRu) : zRu := if 0 < k ∧ g k = g (k - 1) then (s.1 + 1, s.2.1, (if s.2.2.2 < s.1 + 1 then g k else s.2.2.1), (if s.2.2.2 < s.1 + 1 then s.1 + 1 else s.2.2.2)) else (1, s.2.1 + 1, (if s.2.2.2 < 1 then g k else s.2.2.1), (if s.2.2.2 < 1 then 1 else s.2.2.2))
def aRu (g : Nat → Int) (b0 : Int) (n : Nat) : zRu := zfold (aRuS g b0) n (0, 0, b0, 0)
theorem aRu_c {g g' : Nat → Int} {b0 : Int} {n : Nat} (h : ∀ k, k < n → g k = g' k) : aRu g b0 n = aRu g' b0 n := by
  unfold aRu
  refine zfold_cong n _ (fun k s hk => ?_)
  unfold aRuS
  rw [h k hk]
  by_cases e : 0 < k
  · rw [h (k - 1) (by omega)]
  · rw [if_neg (show ¬ (0 < k ∧ g' k = g (k - 1)) from fun q => e q.1), if_neg (show ¬ (0 < k ∧ g' k = g' (k - 1)) from fun q => e q.1)]
def sp_pairs (A : zA) (of : Int) : Int × zA := aAns (if aTold A of then 0 else 1) (-1) A ((aRu (aPS 65536 (A.1 of.toNat)) 0 (aPL (A.1 of.toNat)).length).2.1, A)
def sp_pair (A : zA) (of what : Int) : Int × zA := aAns (if aTold A of then if 0 ≤ what ∧ what ≤ 2 then 0 else 1 else 1) (-1) A (if (aPL (A.1 of.toNat)).length = 0 then -2 else if what = 0 then (aRu (aPS 65536 (A.1 of.toNat)) 0 (aPL (A.1 of.toNat)).length).2.2.1 / 256 else if what = 1 then (aRu (aPS 65536 (A.1 of.toNat)) 0 (aPL (A.1 of.toNat)).length).2.2.1 % 256 else (aRu (aPS 65536 (A.1 of.toNat)) 0 (aPL (A.1 of.toNat)).length).2.2.2, A)
