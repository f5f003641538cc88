/-! ===== which nodes weigh ===== -/
def zgp (v n z t : Int) : Prop := v / z - t ≤ n ∧ n ≤ v / z + t + (if 0 < v % z then 1 else 0)
theorem zecho_p {t f : Int} (ht : 0 ≤ t ∧ t ≤ 3) : 0 < zecho t f ↔ -t ≤ f ∧ f ≤ t := by
  unfold zecho
  by_cases h : -t ≤ f ∧ f ≤ t
  · rw [if_pos ⟨ht, h⟩]
    refine ⟨fun _ => h, fun _ => ?_⟩
    have key : ∀ a : Fin 4, ∀ b : Fin 7, 3 ≤ a.val + b.val → b.val ≤ 3 + a.val → 0 < z_ech (a.val * 7 + b.val) := by decide
    have := key ⟨t.toNat, by omega⟩ ⟨(f + 3).toNat, by omega⟩ (by dsimp only; omega) (by dsimp only; omega)
    rw [show (t * 7 + 3 + f).toNat = t.toNat * 7 + (f + 3).toNat by omega]
    exact this
  · rw [if_neg (fun q => h q.2)]
    exact ⟨fun q => by omega, fun q => absurd q h⟩
theorem zgift_p {v n z t : Int} (hz : 0 < z) (ht : 0 ≤ t ∧ t ≤ 3) : 0 < zgift v n z t ↔ zgp v n z t := by
  unfold zgift zgp
  have h1 := zz_rem (v := v) hz
  have p1 := zecho_p (f := n - v / z) ht
  have p2 := zecho_p (f := n - v / z - 1) ht
  have r1 := zecho_r t (n - v / z)
  have r2 := zecho_r t (n - v / z - 1)
  generalize v % z = r at *
  generalize v / z = q at *
  generalize zecho t (n - q) = e1 at *
  generalize zecho t (n - q - 1) = e2 at *
  have a1 : 0 ≤ (z - r) * e1 := Int.mul_nonneg (by omega) r1.1
  have a2 : 0 ≤ r * e2 := Int.mul_nonneg h1.1 r2.1
  constructor
  · intro h
    by_cases q1 : 0 < e1
    · have := p1.mp q1; split <;> omega
    · have z1 : e1 = 0 := by omega
      rw [z1, Int.mul_zero] at h
      by_cases q2 : 0 < e2
      · have := p2.mp q2
        have : 0 < r := by
          apply Decidable.byContradiction; intro w
          rw [show r = 0 by omega, Int.zero_mul] at h; omega
        rw [if_pos this]; omega
      · rw [show e2 = 0 by omega, Int.mul_zero] at h; omega
  · intro h
    by_cases q1 : 0 < e1
    · have := Int.mul_pos (show 0 < z - r by omega) q1; omega
    · have hr : 0 < r := by
        apply Decidable.byContradiction; intro w
        rw [if_neg w] at h; exact q1 (p1.mpr (by omega))
      rw [if_pos hr] at h
      have q2 : 0 < e2 := p2.mpr (by
        have : ¬ (-t ≤ n - q ∧ n - q ≤ t) := fun w => q1 (p1.mpr w)
        omega)
      have := Int.mul_pos hr q2; omega
def zNd (g : zGr) (i j k : Int) : Prop := ∃ x y : Int, aIn g.1 x y ∧ zgp x i g.2.2.1 g.2.2.2.2.1 ∧ zgp y j g.2.2.1 g.2.2.2.2.2.1 ∧ zgp (g.2.1.2.2 x y) k g.2.2.2.1 g.2.2.2.2.2.2
theorem zwt_p {g : zGr} (hk : zGok g) (i j k : Int) : 0 < zwt g i j k ↔ zNd g i j k := by
  obtain ⟨k1, k2, k3, k4, k5, k6, k7, k8, k9, k10⟩ := hk
  have n1 : ∀ x, 0 ≤ zgift x i g.2.2.1 g.2.2.2.2.1 := fun x => (zgift_r (by omega)).1
  have n2 : ∀ y, 0 ≤ zgift y j g.2.2.1 g.2.2.2.2.2.1 := fun x => (zgift_r (by omega)).1
  have n3 : ∀ v, 0 ≤ zgift v k g.2.2.2.1 g.2.2.2.2.2.2 := fun x => (zgift_r (by omega)).1
  constructor
  · intro h
    apply Classical.byContradiction
    intro hn
    have : zwt g i j k = 0 := zsumD_0 (fun x y hx hy => by
      by_cases q1 : 0 < zgift x i g.2.2.1 g.2.2.2.2.1
      · by_cases q2 : 0 < zgift y j g.2.2.1 g.2.2.2.2.2.1
        · by_cases q3 : 0 < zgift (g.2.1.2.2 x y) k g.2.2.2.1 g.2.2.2.2.2.2
          · exact absurd ⟨x, y, ⟨hx, hy⟩, (zgift_p (by omega) k7).mp q1, (zgift_p (by omega) k8).mp q2, (zgift_p (by omega) k9).mp q3⟩ hn
          · have := n3 (g.2.1.2.2 x y); rw [show zgift (g.2.1.2.2 x y) k g.2.2.2.1 g.2.2.2.2.2.2 = 0 by omega, Int.mul_zero]
        · have := n2 y; rw [show zgift y j g.2.2.1 g.2.2.2.2.2.1 = 0 by omega, Int.mul_zero, Int.zero_mul]
      · have := n1 x; rw [show zgift x i g.2.2.1 g.2.2.2.2.1 = 0 by omega, Int.zero_mul, Int.zero_mul])
    omega
  · rintro ⟨x, y, hi, h1, h2, h3⟩
    have t := zsumD_ge (f := fun x y => zgift x i g.2.2.1 g.2.2.2.2.1 * zgift y j g.2.2.1 g.2.2.2.2.2.1 * zgift (g.2.1.2.2 x y) k g.2.2.2.1 g.2.2.2.2.2.2) hi.1 hi.2 (fun x y => Int.mul_nonneg (Int.mul_nonneg (n1 x) (n2 y)) (n3 _))
    have : 0 < zgift x i g.2.2.1 g.2.2.2.2.1 * zgift y j g.2.2.1 g.2.2.2.2.2.1 * zgift (g.2.1.2.2 x y) k g.2.2.2.1 g.2.2.2.2.2.2 := Int.mul_pos (Int.mul_pos ((zgift_p (by omega) k7).mpr h1) ((zgift_p (by omega) k8).mpr h2)) ((zgift_p (by omega) k9).mpr h3)
    unfold zwt
    omega
/-- one blur more: a node weighs if it, or one beside it, weighed -/
theorem zgp_s {v n z t : Int} (ht : 0 ≤ t) : zgp v n z (t + 1) ↔ zgp v (n - 1) z t ∨ zgp v n z t ∨ zgp v (n + 1) z t := by
  unfold zgp
  generalize v / z = q
  split <;> omega
theorem zNd_b {g : zGr} (hk : zGok g) {y : Int} (hy : 0 ≤ y ∧ y ≤ 2) (i j k : Int) : zNd (zGb g y) i j k ↔ (if y = 0 then zNd g (i - 1) j k ∨ zNd g i j k ∨ zNd g (i + 1) j k else if y = 1 then zNd g i (j - 1) k ∨ zNd g i j k ∨ zNd g i (j + 1) k else zNd g i j (k - 1) ∨ zNd g i j k ∨ zNd g i j (k + 1)) := by
  obtain ⟨k1, k2, k3, k4, k5, k6, k7, k8, k9, k10⟩ := hk
  rcases (show y = 0 ∨ y = 1 ∨ y = 2 by omega) with e | e | e <;> subst e
  · rw [if_pos rfl]
    constructor
    · rintro ⟨x, y, a, b, c, d⟩
      rcases (zgp_s k7.1).mp b with q | q | q
      · exact Or.inl ⟨x, y, a, q, c, d⟩
      · exact Or.inr (Or.inl ⟨x, y, a, q, c, d⟩)
      · exact Or.inr (Or.inr ⟨x, y, a, q, c, d⟩)
    · rintro (⟨x, y, a, b, c, d⟩ | ⟨x, y, a, b, c, d⟩ | ⟨x, y, a, b, c, d⟩)
      · exact ⟨x, y, a, (zgp_s k7.1).mpr (Or.inl b), c, d⟩
      · exact ⟨x, y, a, (zgp_s k7.1).mpr (Or.inr (Or.inl b)), c, d⟩
      · exact ⟨x, y, a, (zgp_s k7.1).mpr (Or.inr (Or.inr b)), c, d⟩
  · rw [if_neg (by omega), if_pos rfl]
    constructor
    · rintro ⟨x, y, a, b, c, d⟩
      rcases (zgp_s k8.1).mp c with q | q | q
      · exact Or.inl ⟨x, y, a, b, q, d⟩
      · exact Or.inr (Or.inl ⟨x, y, a, b, q, d⟩)
      · exact Or.inr (Or.inr ⟨x, y, a, b, q, d⟩)
    · rintro (⟨x, y, a, b, c, d⟩ | ⟨x, y, a, b, c, d⟩ | ⟨x, y, a, b, c, d⟩)
      · exact ⟨x, y, a, b, (zgp_s k8.1).mpr (Or.inl c), d⟩
      · exact ⟨x, y, a, b, (zgp_s k8.1).mpr (Or.inr (Or.inl c)), d⟩
      · exact ⟨x, y, a, b, (zgp_s k8.1).mpr (Or.inr (Or.inr c)), d⟩
  · rw [if_neg (by omega), if_neg (by omega)]
    constructor
    · rintro ⟨x, y, a, b, c, d⟩
      rcases (zgp_s k9.1).mp d with q | q | q
      · exact Or.inl ⟨x, y, a, b, c, q⟩
      · exact Or.inr (Or.inl ⟨x, y, a, b, c, q⟩)
      · exact Or.inr (Or.inr ⟨x, y, a, b, c, q⟩)
    · rintro (⟨x, y, a, b, c, d⟩ | ⟨x, y, a, b, c, d⟩ | ⟨x, y, a, b, c, d⟩)
      · exact ⟨x, y, a, b, c, (zgp_s k9.1).mpr (Or.inl d)⟩
      · exact ⟨x, y, a, b, c, (zgp_s k9.1).mpr (Or.inr (Or.inl d))⟩
      · exact ⟨x, y, a, b, c, (zgp_s k9.1).mpr (Or.inr (Or.inr d))⟩
/-- where no node weighs -/
theorem zNd_r {g : zGr} (hk : zGok g) {i j k : Int} (h : zNd g i j k) : (-g.2.2.2.2.1 ≤ i ∧ i ≤ 16 + g.2.2.2.2.1) ∧ (-g.2.2.2.2.2.1 ≤ j ∧ j ≤ 12 + g.2.2.2.2.2.1) ∧ -g.2.2.2.2.2.2 ≤ k ∧ k ≤ 32 + g.2.2.2.2.2.2 := by
  obtain ⟨k1, k2, k3, k4, k5, k6, k7, k8, k9, k10⟩ := hk
  obtain ⟨x, y, a, b, c, d⟩ := h
  have q1 := zz_quo (v := x) (z := g.2.2.1) (by omega) a.1.1
  have q2 := zz_quo (v := y) (z := g.2.2.1) (by omega) a.2.1
  have kk := k10 x y a.1 a.2
  have q3 := zz_q31 (v := g.2.1.2.2 x y) (z := g.2.2.2.1) (Or.inr (by omega))
  unfold zgp at b c d
  refine ⟨?_, ?_, ?_⟩
  · revert b; split <;> omega
  · revert c; split <;> omega
  · revert d; split <;> omega
