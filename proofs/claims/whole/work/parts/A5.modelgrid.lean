/-! ===== nodes by their place in the model's rows ===== -/
def mnI (n : Nat) : Int := ((n / 741 : Nat) : Int) - 3
def mnJ (n : Nat) : Int := ((n / 39 % 19 : Nat) : Int) - 3
def mnK (n : Nat) : Int := ((n % 39 : Nat) : Int) - 3
theorem mnIJK {n : Nat} (hn : n < 17043) : (-3 ≤ mnI n ∧ mnI n ≤ 19) ∧ (-3 ≤ mnJ n ∧ mnJ n ≤ 15) ∧ (-3 ≤ mnK n ∧ mnK n ≤ 35) ∧ mNo (mnI n) (mnJ n) (mnK n) = n := by unfold mnI mnJ mnK mNo; omega
theorem mnMo {i j k : Int} (hi : -3 ≤ i ∧ i ≤ 19) (hj : -3 ≤ j ∧ j ≤ 15) (hk : -3 ≤ k ∧ k ≤ 35) : mnI (mNo i j k) = i ∧ mnJ (mNo i j k) = j ∧ mnK (mNo i j k) = k := by unfold mnI mnJ mnK mNo; omega
/-- the grid's numbers at half h -/
def mGd (C : Nat) (τ : zSt) (h : Nat) (g : zGr) : Prop := ∀ n, n < 17043 → τ (C + 11) (17043 * h + n) = zwt g (mnI n) (mnJ n) (mnK n) ∧ τ (C + 12) (17043 * h + n) = zsm g (mnI n) (mnJ n) (mnK n)
theorem mrL.gd {C h : Nat} {σ τ : zSt} {g : zGr} (hh : mrL C σ τ h g) : mGd C τ h g := fun n hn => by
  obtain ⟨h1, h2, h3, h4⟩ := mnIJK hn
  have := hh.2.2.2.2.2.2 _ _ _ h1 h2 h3
  rw [h4] at this
  exact this
theorem mGd.l {C h : Nat} {σ τ : zSt} {g : zGr} (hd : mGd C τ h g) (hk : zGok g) (h1 : σ (C + 15) h = g.2.2.1) (h2 : σ (C + 16) h = g.2.2.2.1) (h3 : σ (C + 17) (3 * h) = g.2.2.2.2.1) (h4 : σ (C + 17) (3 * h + 1) = g.2.2.2.2.2.1) (h5 : σ (C + 17) (3 * h + 2) = g.2.2.2.2.2.2) : mrL C σ τ h g := ⟨hk, h1, h2, h3, h4, h5, fun i j k hi hj hk => by
  have e := mnMo hi hj hk
  have := hd _ (mNo_r hi hj hk).1
  rw [e.1, e.2.1, e.2.2] at this
  exact this⟩
/-! ===== sums ===== -/
theorem zS_add (f g : Nat → Int) : ∀ n, zS (fun i => f i + g i) n = zS f n + zS g n
  | 0 => rfl
  | n + 1 => by rw [zS_s, zS_s, zS_s, zS_add f g n]; omega
theorem zS_mul (c : Int) (f : Nat → Int) : ∀ n, zS (fun i => c * f i) n = c * zS f n
  | 0 => by rw [zS_0, zS_0, Int.mul_zero]
  | n + 1 => by rw [zS_s, zS_s, zS_mul c f n, Int.mul_add]
theorem zsumD_S (w h : Int) (f : Int → Int → Int) : zsumD w h f = zS (fun j => zS (fun i => f i j) w.toNat) h.toNat := by
  unfold zsumD
  rw [zwin_S, Int.zero_add, Int.sub_zero, Int.sub_zero]
  exact zS_c _ (fun j hj => zS_c _ (fun i hi => by rw [Int.zero_add, Int.zero_add]))
theorem zsumD_add (w h : Int) (f g : Int → Int → Int) : zsumD w h (fun x y => f x y + g x y) = zsumD w h f + zsumD w h g := by
  rw [zsumD_S, zsumD_S, zsumD_S, ← zS_add]
  exact zS_c _ (fun j hj => zS_add _ _ _)
theorem zsumD_mul (w h c : Int) (f : Int → Int → Int) : zsumD w h (fun x y => c * f x y) = c * zsumD w h f := by
  rw [zsumD_S, zsumD_S, ← zS_mul]
  exact zS_c _ (fun j hj => zS_mul _ _ _)
/-! ===== what comes to a node ===== -/
theorem zbond_g (u v z t : Int) : zbond u v z t = (z - u % z) * zgift v (u / z) z t + u % z * zgift v (u / z + 1) z t := by
  unfold zbond zgift
  rw [show u / z + 1 - v / z = u / z - v / z + 1 by omega, show u / z - v / z + 1 - 1 = u / z - v / z by omega]
  generalize u % z = a
  generalize v % z = b
  generalize zecho t (u / z - v / z) = e0
  generalize zecho t (u / z - v / z + 1) = e1
  generalize zecho t (u / z - v / z - 1) = e2
  grind
theorem zecho_00 (f : Int) : zecho 0 f = if f = 0 then 1 else 0 := by
  unfold zecho
  by_cases h : f = 0
  · subst h; rfl
  · rw [if_neg (by omega), if_neg h]
theorem zgift_0 (v n z : Int) : zgift v n z 0 = (if n = v / z then z - v % z else 0) + (if n = v / z + 1 then v % z else 0) := by
  unfold zgift
  rw [zecho_00, zecho_00]
  by_cases h1 : n = v / z
  · rw [if_pos (show n - v / z = 0 by omega), if_neg (show ¬ n - v / z - 1 = 0 by omega), if_pos h1, if_neg (by omega), Int.mul_one, Int.mul_zero]
  · rw [if_neg (show ¬ n - v / z = 0 by omega), if_neg h1, Int.mul_zero]
    by_cases h2 : n = v / z + 1
    · rw [if_pos (show n - v / z - 1 = 0 by omega), if_pos h2, Int.mul_one]
    · rw [if_neg (show ¬ n - v / z - 1 = 0 by omega), if_neg h2, Int.mul_zero]
theorem zecho_s {t : Int} (ht : 0 ≤ t ∧ t ≤ 2) (f : Int) : zecho (t + 1) f = zecho t (f - 1) + 2 * zecho t f + zecho t (f + 1) := by
  by_cases hf : -3 ≤ f ∧ f ≤ 3
  · rcases (show t = 0 ∨ t = 1 ∨ t = 2 by omega) with rfl | rfl | rfl <;> rcases (show f = -3 ∨ f = -2 ∨ f = -1 ∨ f = 0 ∨ f = 1 ∨ f = 2 ∨ f = 3 by omega) with rfl | rfl | rfl | rfl | rfl | rfl | rfl <;> decide +kernel
  · rw [zecho_0 (by omega), zecho_0 (t := t) (by omega), zecho_0 (t := t) (by omega), zecho_0 (t := t) (by omega)]; rfl
theorem zgift_s {t : Int} (ht : 0 ≤ t ∧ t ≤ 2) (v n z : Int) : zgift v n z (t + 1) = zgift v (n - 1) z t + 2 * zgift v n z t + zgift v (n + 1) z t := by
  unfold zgift
  rw [zecho_s ht, zecho_s ht, show n - 1 - v / z = n - v / z - 1 by omega, show n + 1 - v / z = n - v / z + 1 by omega, show n - v / z - 1 + 1 = n - v / z by omega, show n - v / z + 1 - 1 = n - v / z by omega]
  generalize zecho t (n - v / z) = e0
  generalize zecho t (n - v / z + 1) = e1
  generalize zecho t (n - v / z - 1) = e2
  generalize zecho t (n - v / z - 1 - 1) = e3
  grind
theorem zwt_b0 {g : zGr} (ht : 0 ≤ g.2.2.2.2.1 ∧ g.2.2.2.2.1 ≤ 2) (i j k : Int) : zwt (zGb g 0) i j k = 2 * zwt g i j k + zwt g (i - 1) j k + zwt g (i + 1) j k ∧ zsm (zGb g 0) i j k = 2 * zsm g i j k + zsm g (i - 1) j k + zsm g (i + 1) j k := by
  unfold zwt zsm zGb
  simp only [if_pos, if_neg (show ¬ (0 : Int) = 1 by omega), if_neg (show ¬ (0 : Int) = 2 by omega)]
  rw [← zsumD_mul, ← zsumD_mul, ← zsumD_add, ← zsumD_add, ← zsumD_add, ← zsumD_add]
  exact ⟨zsumD_c (fun x y _ _ => by rw [zgift_s ht]; grind), zsumD_c (fun x y _ _ => by rw [zgift_s ht]; grind)⟩
theorem zwt_b1 {g : zGr} (ht : 0 ≤ g.2.2.2.2.2.1 ∧ g.2.2.2.2.2.1 ≤ 2) (i j k : Int) : zwt (zGb g 1) i j k = 2 * zwt g i j k + zwt g i (j - 1) k + zwt g i (j + 1) k ∧ zsm (zGb g 1) i j k = 2 * zsm g i j k + zsm g i (j - 1) k + zsm g i (j + 1) k := by
  unfold zwt zsm zGb
  simp only [if_pos, if_neg (show ¬ (1 : Int) = 0 by omega), if_neg (show ¬ (1 : Int) = 2 by omega)]
  rw [← zsumD_mul, ← zsumD_mul, ← zsumD_add, ← zsumD_add, ← zsumD_add, ← zsumD_add]
  exact ⟨zsumD_c (fun x y _ _ => by rw [zgift_s ht]; grind), zsumD_c (fun x y _ _ => by rw [zgift_s ht]; grind)⟩
theorem zwt_b2 {g : zGr} (ht : 0 ≤ g.2.2.2.2.2.2 ∧ g.2.2.2.2.2.2 ≤ 2) (i j k : Int) : zwt (zGb g 2) i j k = 2 * zwt g i j k + zwt g i j (k - 1) + zwt g i j (k + 1) ∧ zsm (zGb g 2) i j k = 2 * zsm g i j k + zsm g i j (k - 1) + zsm g i j (k + 1) := by
  unfold zwt zsm zGb
  simp only [if_pos, if_neg (show ¬ (2 : Int) = 0 by omega), if_neg (show ¬ (2 : Int) = 1 by omega)]
  rw [← zsumD_mul, ← zsumD_mul, ← zsumD_add, ← zsumD_add, ← zsumD_add, ← zsumD_add]
  exact ⟨zsumD_c (fun x y _ _ => by rw [zgift_s ht]; grind), zsumD_c (fun x y _ _ => by rw [zgift_s ht]; grind)⟩
/-! ===== where nodes weigh nothing ===== -/
theorem zz_ceil {x s : Int} (hx : 0 ≤ x) (hs : 1 ≤ s) : x / s + (if 0 < x % s then 1 else 0) ≤ x := by
  have h1 := Int.emod_add_mul_ediv x s
  have h2 := zz_rem (v := x) (z := s) (by omega)
  have h3 := zz_quo (v := x) (z := s) (by omega) hx
  split
  · have h4 : 1 * (x / s) ≤ s * (x / s) := Int.mul_le_mul_of_nonneg_right hs h3.1
    omega
  · omega
theorem zNd_r2 {g : zGr} (hk : zGok g) {i j k : Int} (h : zNd g i j k) : (-g.2.2.2.2.1 ≤ i ∧ i ≤ 15 + g.2.2.2.2.1) ∧ (-g.2.2.2.2.2.1 ≤ j ∧ j ≤ 11 + g.2.2.2.2.2.1) ∧ -g.2.2.2.2.2.2 ≤ k ∧ k ≤ 32 + g.2.2.2.2.2.2 := by
  have h0 := zNd_r hk h
  obtain ⟨k1, k2, k3, k4, k5, k6, k7, k8, k9, k10⟩ := hk
  obtain ⟨x, y, hxy, g1, g2, g3⟩ := h
  have c1 := zz_ceil (x := x) (s := g.2.2.1) hxy.1.1 k5.1
  have c2 := zz_ceil (x := y) (s := g.2.2.1) hxy.2.1 k5.1
  unfold zgp at g1 g2
  omega
theorem zwt_nn {g : zGr} (hk : zGok g) (i j k : Int) : 0 ≤ zwt g i j k ∧ 0 ≤ zsm g i j k ∧ zsm g i j k ≤ 255 * zwt g i j k := by
  obtain ⟨k1, k2, k3, k4, k5, k6, k7, k8, k9, k10⟩ := hk
  have hg : ∀ x y, 0 ≤ zgift x i g.2.2.1 g.2.2.2.2.1 * zgift y j g.2.2.1 g.2.2.2.2.2.1 * zgift (g.2.1.2.2 x y) k g.2.2.2.1 g.2.2.2.2.2.2 := fun x y => Int.mul_nonneg (Int.mul_nonneg (zgift_r (by omega)).1 (zgift_r (by omega)).1) (zgift_r (by omega)).1
  have s0 : ∀ (w h : Int) (f : Int → Int → Int), (∀ x y : Int, 0 ≤ x ∧ x < w → 0 ≤ y ∧ y < h → 0 ≤ f x y) → 0 ≤ zsumD w h f := fun w h f q => zwin_ind (f := fun x y a => a + f x y) (x0 := 0) (x1 := w) (y0 := 0) (y1 := h) (fun _ (a : Int) => 0 ≤ a) (Int.le_refl _) (fun n x y b hx hy hb => by have := q x y hx hy; omega)
  refine ⟨s0 _ _ _ (fun x y _ _ => hg x y), s0 _ _ _ (fun x y hx hy => Int.mul_nonneg (hg x y) (k10 x y hx hy).1.1), ?_⟩
  unfold zwt zsm
  refine zsumD_le (fun x y hx hy => ?_)
  rw [Int.mul_comm 255]
  exact Int.mul_le_mul_of_nonneg_left (k10 x y hx hy).1.2 (hg x y)
theorem zwt_z {g : zGr} (hk : zGok g) {i j k : Int} (h : ¬ zNd g i j k) : zwt g i j k = 0 ∧ zsm g i j k = 0 := by
  have h1 := zwt_nn hk i j k
  have h2 : ¬ 0 < zwt g i j k := fun q => h ((zwt_p hk i j k).mp q)
  omega
theorem zwt_far {g : zGr} (hk : zGok g) {i j k : Int} (h : i < -g.2.2.2.2.1 ∨ 15 + g.2.2.2.2.1 < i ∨ j < -g.2.2.2.2.2.1 ∨ 11 + g.2.2.2.2.2.1 < j ∨ k < -g.2.2.2.2.2.2 ∨ 32 + g.2.2.2.2.2.2 < k) : zwt g i j k = 0 ∧ zsm g i j k = 0 := zwt_z hk (fun q => by have := zNd_r2 hk q; omega)
theorem zwt_top {g : zGr} (hk : zGok g) (i j k : Int) : zwt g i j k ≤ 200000000000 := by
  obtain ⟨k1, k2, k3, k4, k5, k6, k7, k8, k9, k10⟩ := hk
  have hg : ∀ x y, 0 ≤ zgift x i g.2.2.1 g.2.2.2.2.1 * zgift y j g.2.2.1 g.2.2.2.2.2.1 * zgift (g.2.1.2.2 x y) k g.2.2.2.1 g.2.2.2.2.2.2 ∧ zgift x i g.2.2.1 g.2.2.2.2.1 * zgift y j g.2.2.1 g.2.2.2.2.2.1 * zgift (g.2.1.2.2 x y) k g.2.2.2.1 g.2.2.2.2.2.2 ≤ 160 * 160 * 2560 := fun x y => by
    have a1 := zgift_r (v := x) (n := i) (z := g.2.2.1) (t := g.2.2.2.2.1) (by omega)
    have a2 := zgift_r (v := y) (n := j) (z := g.2.2.1) (t := g.2.2.2.2.2.1) (by omega)
    have a3 := zgift_r (v := g.2.1.2.2 x y) (n := k) (z := g.2.2.2.1) (t := g.2.2.2.2.2.2) (by omega)
    exact zz_m2 (zz_m2 ⟨a1.1, by omega⟩ ⟨a2.1, by omega⟩) ⟨a3.1, by omega⟩
  have := (zsumD_r (w := g.1.1) (h := g.1.2.1) (M := 160 * 160 * 2560) (by omega) (by omega) (by omega) (fun x y _ _ => hg x y)).2
  have e : zwt g i j k ≤ 192 * (160 * 160 * 2560) := this
  omega
