/-! ===== bits and nodes ===== -/
theorem zfold_ex {α : Type} {F : Nat → α → α} (P : α → Prop) (Q : Nat → Prop) : ∀ (n : Nat) (a : α), (∀ i a, i < n → (P (F i a) ↔ P a ∨ Q i)) → (P (zfold F n a) ↔ P a ∨ ∃ i, i < n ∧ Q i)
  | 0, a, _ => by simp only [zfold]; exact ⟨Or.inl, fun h => h.elim id (fun ⟨i, hi, _⟩ => by omega)⟩
  | n + 1, a, h => by
    simp only [zfold]
    rw [h n _ (by omega), zfold_ex P Q n a (fun i a hi => h i a (by omega))]
    constructor
    · rintro ((q | ⟨i, hi, q⟩) | q)
      · exact Or.inl q
      · exact Or.inr ⟨i, by omega, q⟩
      · exact Or.inr ⟨n, by omega, q⟩
    · rintro (q | ⟨i, hi, q⟩)
      · exact Or.inl (Or.inl q)
      · by_cases e : i = n
        · subst e; exact Or.inr q
        · exact Or.inl (Or.inr ⟨i, by omega, q⟩)
theorem zwin_ex {α : Type} {F : Int → Int → α → α} (P : α → Prop) (Q : Int → Int → Prop) {x1 y1 : Int} {a : α} (h : ∀ x y a, 0 ≤ x ∧ x < x1 → 0 ≤ y ∧ y < y1 → (P (F x y a) ↔ P a ∨ Q x y)) : P (zwin 0 x1 0 y1 F a) ↔ P a ∨ ∃ x y, (0 ≤ x ∧ x < x1) ∧ (0 ≤ y ∧ y < y1) ∧ Q x y := by
  unfold zwin
  rw [zfold_ex P (fun j => ∃ i, i < (x1 - 0).toNat ∧ Q (0 + i) (0 + j)) (y1 - 0).toNat a (fun j a hj => zfold_ex P (fun i => Q (0 + i) (0 + j)) (x1 - 0).toNat a (fun i a hi => h _ _ a (by omega) (by omega)))]
  constructor
  · rintro (q | ⟨j, hj, i, hi, q⟩)
    · exact Or.inl q
    · exact Or.inr ⟨0 + i, 0 + j, by omega, by omega, q⟩
  · rintro (q | ⟨x, y, hx, hy, q⟩)
    · exact Or.inl q
    · exact Or.inr ⟨y.toNat, by omega, x.toNat, by omega, by rw [show (0 : Int) + (x.toNat : Int) = x by omega, show (0 : Int) + (y.toNat : Int) = y by omega]; exact q⟩
theorem zCa_bit {C : Nat → Nat} {i j : Int} {b c k : Nat} (hc : c < 396) (hi : -3 ≤ i) (hj : -3 ≤ j ∧ j ≤ 14) : (zCa C i j b c).testBit k = true ↔ (C c).testBit k = true ∨ (b.testBit k = true ∧ ((c / 18 : Nat) : Int) - 3 = i ∧ ((c % 18 : Nat) : Int) - 3 = j) := by
  unfold zCa
  by_cases e : c = ((i + 3) * 18 + (j + 3)).toNat
  · rw [if_pos e, Nat.testBit_or, Bool.or_eq_true]
    have : ((c / 18 : Nat) : Int) - 3 = i ∧ ((c % 18 : Nat) : Int) - 3 = j := by omega
    exact ⟨fun q => q.elim Or.inl (fun q => Or.inr ⟨q, this⟩), fun q => q.elim Or.inl (fun q => Or.inr q.1)⟩
  · rw [if_neg e]
    exact ⟨Or.inl, fun q => q.elim id (fun q => by omega)⟩
theorem zSN_bit {v r : Int} {k : Nat} (hv : 0 ≤ v) (hr : 0 < r) : (zSN v r).testBit k = true ↔ zgp v ((k : Int) - 3) r 0 := by
  have hq : 0 ≤ v / r := Int.ediv_nonneg hv (by omega)
  unfold zSN zgp
  rw [← Nat.shiftLeft_eq, Nat.testBit_shiftLeft]
  generalize v / r = q at *
  by_cases e : 0 < v % r
  · rw [if_pos e, if_pos e]
    have t3 : ∀ n, Nat.testBit 3 n = true ↔ n ≤ 1 := by
      intro n
      rcases n with _ | _ | n
      · decide
      · decide
      · rw [Nat.testBit_succ, Nat.testBit_succ]; simp
    rw [Bool.and_eq_true, t3, decide_eq_true_eq]
    omega
  · rw [if_neg e, if_neg e]
    have t1 : ∀ n, Nat.testBit 1 n = true ↔ n = 0 := by
      intro n
      rcases n with _ | n
      · decide
      · rw [Nat.testBit_succ]; simp
    rw [Bool.and_eq_true, t1, decide_eq_true_eq]
    omega
theorem zCd_bit {C : Nat → Nat} {x y s : Int} {b c k : Nat} (hc : c < 396) (hx : 0 ≤ x) (hy : 0 ≤ y ∧ y ≤ 11) (hs : 1 ≤ s) : (zCd C x y s b c).testBit k = true ↔ (C c).testBit k = true ∨ (b.testBit k = true ∧ zgp x (((c / 18 : Nat) : Int) - 3) s 0 ∧ zgp y (((c % 18 : Nat) : Int) - 3) s 0) := by
  have hq1 := zz_quo (v := x) (z := s) (by omega) hx
  have hq2 := zz_quo (v := y) (z := s) (by omega) hy.1
  unfold zCd
  rw [zCa_bit hc (by omega) (by omega), zCa_bit hc (by omega) (by omega), zCa_bit hc (by omega) (by omega), zCa_bit hc (by omega) (by omega)]
  unfold zgp
  have z0 : Nat.testBit 0 k = true ↔ False := by simp
  generalize (C c).testBit k = p
  generalize hbk : b.testBit k = t
  generalize ((c / 18 : Nat) : Int) - 3 = i
  generalize ((c % 18 : Nat) : Int) - 3 = j
  generalize x / s = xs at *
  generalize y / s = ys at *
  by_cases ex : 0 < x % s <;> by_cases ey : 0 < y % s <;> simp only [if_pos, if_neg, ex, ey, hbk, z0, if_true, if_false, false_and, or_false] <;> cases t <;> cases p <;> simp <;> omega
theorem zCs_bit {o p : zPc} {s r : Int} {c k : Nat} (hc : c < 396) (hp : p.2.1 ≤ 12) (e1 : p.1 = o.1) (e2 : p.2.1 = o.2.1) (hs : 1 ≤ s) (hr : 8 ≤ r) (hd : aDots p) : (zCs p s r c).testBit k = true ↔ zNd (aSmG o p s r 0) (((c / 18 : Nat) : Int) - 3) (((c % 18 : Nat) : Int) - 3) ((k : Int) - 3) := by
  unfold zCs
  refine Iff.trans (zwin_ex (fun C : Nat → Nat => (C c).testBit k = true) (fun x y => zgp (p.2.2 x y) ((k : Int) - 3) r 0 ∧ zgp x (((c / 18 : Nat) : Int) - 3) s 0 ∧ zgp y (((c % 18 : Nat) : Int) - 3) s 0) (fun x y C hx hy => by rw [zCd_bit hc hx.1 (by omega) hs, zSN_bit (hd x y hx hy).1 (by omega)])) ?_
  constructor
  · rintro (q | ⟨x, y, hx, hy, q1, q2, q3⟩)
    · simp at q
    · exact ⟨x, y, ⟨by show 0 ≤ x ∧ x < o.1; omega, by show 0 ≤ y ∧ y < o.2.1; omega⟩, q2, q3, q1⟩
  · rintro ⟨x, y, hi, q2, q3, q1⟩
    have hi1 : 0 ≤ x ∧ x < o.1 := hi.1
    have hi2 : 0 ≤ y ∧ y < o.2.1 := hi.2
    exact Or.inr ⟨x, y, by omega, by omega, q1, q2, q3⟩
/-- the bits of the columns are the nodes that weigh -/
def xCB (g : zGr) (C : Nat → Nat) : Prop := ∀ c, c < 396 → ∀ k : Nat, (C c).testBit k = true ↔ zNd g (((c / 18 : Nat) : Int) - 3) (((c % 18 : Nat) : Int) - 3) ((k : Int) - 3)
theorem xCB.lt {g : zGr} {C : Nat → Nat} (h : xCB g C) (hk : zGok g) {c : Nat} (hc : c < 396) : C c < 549755813888 := by
  have k9 := hk.2.2.2.2.2.2.2.2.1
  refine Nat.lt_pow_two_of_testBit (n := 39) _ (fun k hk2 => ?_)
  cases e : (C c).testBit k with
  | false => rfl
  | true =>
    have := (zNd_r hk ((h c hc k).mp e)).2.2
    omega
theorem xCB.wd {g : zGr} {C : Nat → Nat} {y : Int} (h : xCB g C) (hk : zGok g) (hy : 0 ≤ y ∧ y ≤ 2) (hy3 : zGy g y < 3) : xCB (zGb g y) (zCw y C) := by
  intro c hc k
  rw [zNd_b hk hy]
  have hr : ∀ i j k, zNd g i j k → _ := fun i j k q => zNd_r hk q
  have k7 := hk.2.2.2.2.2.2.1
  have k8 := hk.2.2.2.2.2.2.2.1
  have k9 := hk.2.2.2.2.2.2.2.2.1
  unfold zGy at hy3
  unfold zCw
  rcases (show y = 0 ∨ y = 1 ∨ y = 2 by omega) with e | e | e <;> subst e
  · rw [if_pos rfl, if_pos rfl, Nat.testBit_or, Nat.testBit_or, Bool.or_eq_true, Bool.or_eq_true, h c hc k]
    rw [if_pos rfl] at hy3
    constructor
    · rintro ((q | q) | q)
      · by_cases e : c < 18
        · rw [if_pos e] at q; simp at q
        · rw [if_neg e, h _ (by omega)] at q
          rw [show (((c - 18) / 18 : Nat) : Int) - 3 = ((c / 18 : Nat) : Int) - 3 - 1 by omega, show (c - 18) % 18 = c % 18 by omega] at q
          exact Or.inl q
      · exact Or.inr (Or.inl q)
      · by_cases e : c + 18 < 396
        · rw [if_pos e, h _ e] at q
          rw [show (((c + 18) / 18 : Nat) : Int) - 3 = ((c / 18 : Nat) : Int) - 3 + 1 by omega, show (c + 18) % 18 = c % 18 by omega] at q
          exact Or.inr (Or.inr q)
        · rw [if_neg e] at q; simp at q
    · rintro (q | q | q)
      · have := (hr _ _ _ q).1
        left; left
        rw [if_neg (by omega), h _ (by omega), show (((c - 18) / 18 : Nat) : Int) - 3 = ((c / 18 : Nat) : Int) - 3 - 1 by omega, show (c - 18) % 18 = c % 18 by omega]
        exact q
      · exact Or.inl (Or.inr q)
      · have := (hr _ _ _ q).1
        right
        rw [if_pos (by omega), h _ (by omega), show (((c + 18) / 18 : Nat) : Int) - 3 = ((c / 18 : Nat) : Int) - 3 + 1 by omega, show (c + 18) % 18 = c % 18 by omega]
        exact q
  · simp only [show ¬ (1 : Int) = 0 by omega, if_false, if_true] at hy3 ⊢
    rw [Nat.testBit_or, Nat.testBit_or, Bool.or_eq_true, Bool.or_eq_true, h c hc k]
    constructor
    · rintro ((q | q) | q)
      · by_cases e : c % 18 = 0
        · rw [if_pos e] at q; simp at q
        · rw [if_neg e, h _ (by omega)] at q
          rw [show (c - 1) / 18 = c / 18 by omega, show (((c - 1) % 18 : Nat) : Int) - 3 = ((c % 18 : Nat) : Int) - 3 - 1 by omega] at q
          exact Or.inl q
      · exact Or.inr (Or.inl q)
      · by_cases e : c % 18 = 17
        · rw [if_pos e] at q; simp at q
        · rw [if_neg e, h _ (by omega)] at q
          rw [show (c + 1) / 18 = c / 18 by omega, show (((c + 1) % 18 : Nat) : Int) - 3 = ((c % 18 : Nat) : Int) - 3 + 1 by omega] at q
          exact Or.inr (Or.inr q)
    · rintro (q | q | q)
      · have := (hr _ _ _ q).2.1
        left; left
        rw [if_neg (by omega), h _ (by omega), show (c - 1) / 18 = c / 18 by omega, show (((c - 1) % 18 : Nat) : Int) - 3 = ((c % 18 : Nat) : Int) - 3 - 1 by omega]
        exact q
      · exact Or.inl (Or.inr q)
      · have := (hr _ _ _ q).2.1
        right
        rw [if_neg (by omega), h _ (by omega), show (c + 1) / 18 = c / 18 by omega, show (((c + 1) % 18 : Nat) : Int) - 3 = ((c % 18 : Nat) : Int) - 3 + 1 by omega]
        exact q
  · simp only [show ¬ (2 : Int) = 0 by omega, show ¬ (2 : Int) = 1 by omega, if_false] at hy3 ⊢
    rw [Nat.testBit_or, Nat.testBit_or, Bool.or_eq_true, Bool.or_eq_true, h c hc k, show C c * 2 = C c <<< 1 by rw [Nat.shiftLeft_eq], Nat.testBit_shiftLeft, ← Nat.testBit_succ, h c hc (k + 1), Bool.and_eq_true, decide_eq_true_eq]
    rw [show ((k + 1 : Nat) : Int) - 3 = (k : Int) - 3 + 1 by omega]
    constructor
    · rintro (q | ⟨e, q⟩ | q)
      · exact Or.inr (Or.inl q)
      · rw [h c hc, show ((k - 1 : Nat) : Int) - 3 = (k : Int) - 3 - 1 by omega] at q
        exact Or.inl q
      · exact Or.inr (Or.inr q)
    · rintro (q | q | q)
      · have := (hr _ _ _ q).2.2
        refine Or.inr (Or.inl ⟨by omega, ?_⟩)
        rw [h c hc, show ((k - 1 : Nat) : Int) - 3 = (k : Int) - 3 - 1 by omega]
        exact q
      · exact Or.inl q
      · exact Or.inr (Or.inr q)
theorem xCB.C {B : Nat} {τ τ1 : zSt} {g : zGr} {C : Nat → Nat} (h : xCB g C) (hk : zGok g) (hd : xrD B τ1 C τ) : xrC τ (B + 56) g := by
  intro c hc
  have t := hd.2 c hc
  rw [t.1]
  refine ⟨by omega, fun k => ?_⟩
  rw [Int.toNat_natCast]
  have := h c hc k
  rw [← zwt_p hk] at this
  cases e : (C c).testBit k with
  | true => exact (decide_eq_true (this.mp e)).symm
  | false => exact (decide_eq_false (fun q => by rw [this.mpr q] at e; exact absurd e (by decide))).symm
theorem xrC.D {B : Nat} {τ : zSt} {g : zGr} (h : xrC τ (B + 56) g) (hk : zGok g) : xrD B τ (fun c => (τ (B + 56) c).toNat) τ ∧ xCB g (fun c => (τ (B + 56) c).toNat) := by
  refine ⟨⟨fun _ _ => rfl, fun c hc => ?_⟩, fun c hc k => ?_⟩
  · have := (h c hc).1
    dsimp only
    omega
  · dsimp only
    rw [(h c hc).2 k, decide_eq_true_eq, zwt_p hk]
