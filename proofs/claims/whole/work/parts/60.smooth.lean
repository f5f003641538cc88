theorem zS_ge {f : Nat → Int} {k : Nat} : ∀ (n : Nat), (∀ i, 0 ≤ f i) → k < n → f k ≤ zS f n
  | 0, _, h => by omega
  | n + 1, hf, h => by
    rw [zS_s]
    have h0 := zS_le (f := fun _ => 0) (g := f) n (fun i _ => hf i)
    rw [zS_k] at h0
    by_cases e : k = n
    · subst e; omega
    · have := zS_ge (k := k) n hf (by omega); have := hf n; omega
theorem zsumD_ge {w h x y : Int} {f : Int → Int → Int} (hx : 0 ≤ x ∧ x < w) (hy : 0 ≤ y ∧ y < h) (hf : ∀ x y, 0 ≤ f x y) : f x y ≤ zsumD w h f := by
  unfold zsumD
  rw [zwin_S]
  have h1 := zS_ge (f := fun j => zS (fun i => f (0 + i) (0 + j)) (w - 0).toNat) (k := y.toNat) (h - 0).toNat (fun j => by
    have h0 := zS_le (f := fun _ => 0) (g := fun i : Nat => f (0 + i) (0 + j)) (w - 0).toNat (fun i _ => hf _ _)
    rw [zS_k] at h0; simpa using h0) (by omega)
  have h2 := zS_ge (f := fun i : Nat => f (0 + i) (0 + (y.toNat : Int))) (k := x.toNat) (w - 0).toNat (fun i => hf _ _) (by omega)
  simp only [show (0 : Int) + (x.toNat : Int) = x by omega, show (0 : Int) + (y.toNat : Int) = y by omega] at h1 h2
  omega
theorem zsumD_le {w h c : Int} {f g : Int → Int → Int} (hc : ∀ x y : Int, 0 ≤ x ∧ x < w → 0 ≤ y ∧ y < h → f x y ≤ c * g x y) : zsumD w h f ≤ c * zsumD w h g := by
  have := zwin_rel (f := fun x y a => a + f x y) (g := fun x y a => a + g x y) (x0 := 0) (x1 := w) (y0 := 0) (y1 := h) (a := 0) (b := 0) (fun a b => a ≤ c * b) (by simp) (fun x y a b hx hy q => by
    have := hc x y hx hy
    rw [Int.mul_add]; omega)
  exact this
theorem zbond_p {u z t : Int} (hz : 0 < z) (ht : 0 ≤ t ∧ t ≤ 3) : 1 ≤ zbond u u z t := by
  unfold zbond
  have h1 := zz_rem (v := u) hz
  have e1 := zecho_r t (u / z - u / z + 1)
  have e2 := zecho_r t (u / z - u / z - 1)
  have e0 : 1 ≤ zecho t (u / z - u / z) := by
    rw [Int.sub_self]
    rcases (show t = 0 ∨ t = 1 ∨ t = 2 ∨ t = 3 by omega) with e | e | e | e <;> subst e <;> decide
  generalize u % z = q at *
  generalize zecho t (u / z - u / z) = x0 at *
  generalize zecho t (u / z - u / z + 1) = x1 at *
  generalize zecho t (u / z - u / z - 1) = x2 at *
  have p1 : 1 ≤ (z - q) * (z - q) := Int.mul_le_mul (a := 1) (b := 1) (by omega) (by omega) (by omega) (by omega)
  have p2 := zz_m2 (a := q) (c := q) (b := q) (d := q) ⟨by omega, by omega⟩ ⟨by omega, by omega⟩
  have p3 := zz_m2 (a := q) (c := q) (b := z - q) (d := z - q) ⟨by omega, by omega⟩ ⟨by omega, by omega⟩
  have p4 := zz_m2 (a := z - q) (c := z - q) (b := q) (d := q) ⟨by omega, by omega⟩ ⟨by omega, by omega⟩
  generalize (z - q) * (z - q) = m1 at *
  generalize q * q = m2 at *
  generalize q * (z - q) = m3 at *
  generalize (z - q) * q = m4 at *
  have g1 : 1 * 1 ≤ (m1 + m2) * x0 := Int.mul_le_mul (by omega) e0 (by omega) (by omega)
  have g2 := zz_m2 (a := m3) (c := m3) (b := x1) (d := 20) ⟨by omega, by omega⟩ e1
  have g3 := zz_m2 (a := m4) (c := m4) (b := x2) (d := 20) ⟨by omega, by omega⟩ e2
  omega
theorem zRW_t {g : zGr} (hk : zGok g) (x y sh u v : Int) : 0 ≤ zbond y v g.2.2.1 g.2.2.2.2.2.1 * zbond x u g.2.2.1 g.2.2.2.2.1 * zbond sh (g.2.1.2.2 u v) g.2.2.2.1 g.2.2.2.2.2.2 ∧ zbond y v g.2.2.1 g.2.2.2.2.2.1 * zbond x u g.2.2.1 g.2.2.2.2.1 * zbond sh (g.2.1.2.2 u v) g.2.2.2.1 g.2.2.2.2.2.2 ≤ 536870912000 := by
  obtain ⟨k1, k2, k3, k4, k5, k6, k7, k8, k9, k10⟩ := hk
  have r1 := zbond_r (u := x) (v := u) (z := g.2.2.1) (t := g.2.2.2.2.1) (by omega)
  have r2 := zbond_r (u := y) (v := v) (z := g.2.2.1) (t := g.2.2.2.2.2.1) (by omega)
  have r3 := zbond_r (u := sh) (v := g.2.1.2.2 u v) (z := g.2.2.2.1) (t := g.2.2.2.2.2.2) (by omega)
  have m1 := zz_m2 (a := g.2.2.1) (b := g.2.2.1) (c := 8) (d := 8) (by omega) (by omega)
  have m2 := zz_m2 (a := g.2.2.2.1) (b := g.2.2.2.1) (c := 128) (d := 128) (by omega) (by omega)
  have r4 := zz_m2 (a := zbond y v g.2.2.1 g.2.2.2.2.2.1) (b := zbond x u g.2.2.1 g.2.2.2.2.1) (c := 1280) (d := 1280) (by omega) (by omega)
  have r5 := zz_m2 (a := zbond y v g.2.2.1 g.2.2.2.2.2.1 * zbond x u g.2.2.1 g.2.2.2.2.1) (b := zbond sh (g.2.1.2.2 u v) g.2.2.2.1 g.2.2.2.2.2.2) (c := 1638400) (d := 327680) (by omega) (by omega)
  omega
theorem zRW_r {g : zGr} (hk : zGok g) (x y sh : Int) : (0 ≤ zRW g x y sh ∧ zRW g x y sh ≤ 103079215104000) ∧ 0 ≤ zRS g x y sh ∧ zRS g x y sh ≤ 255 * zRW g x y sh := by
  have hk' := hk
  obtain ⟨k1, k2, k3, k4, k5, k6, k7, k8, k9, k10⟩ := hk
  unfold zRW zRS
  have h1 := zsumD_r (w := g.1.1) (h := g.1.2.1) (M := 536870912000) (by omega) (by omega) (by omega) (fun u v hu hv => zRW_t hk' x y sh u v)
  refine ⟨⟨h1.1, by omega⟩, ?_, ?_⟩
  · exact (zsumD_r (w := g.1.1) (h := g.1.2.1) (M := 536870912000 * 255) (by omega) (by omega) (by omega) (fun u v hu hv => zz_m2 (zRW_t hk' x y sh u v) (k10 u v hu hv).1)).1
  · refine zsumD_le (fun u v hu hv => ?_)
    have := (k10 u v hu hv).1
    rw [Int.mul_comm 255]
    exact Int.mul_le_mul_of_nonneg_left this.2 (zRW_t hk' x y sh u v).1
theorem zRW_p {g : zGr} (hk : zGok g) {x y : Int} (hi : aIn g.1 x y) : 1 ≤ zRW g x y (g.2.1.2.2 x y) := by
  have hk' := hk
  obtain ⟨k1, k2, k3, k4, k5, k6, k7, k8, k9, k10⟩ := hk
  have h1 := zsumD_ge (f := fun u v => zbond y v g.2.2.1 g.2.2.2.2.2.1 * zbond x u g.2.2.1 g.2.2.2.2.1 * zbond (g.2.1.2.2 x y) (g.2.1.2.2 u v) g.2.2.2.1 g.2.2.2.2.2.2) hi.1 hi.2 (fun u v => (zRW_t hk' x y _ u v).1)
  have b1 := zbond_p (u := x) (z := g.2.2.1) (t := g.2.2.2.2.1) (by omega) k7
  have b2 := zbond_p (u := y) (z := g.2.2.1) (t := g.2.2.2.2.2.1) (by omega) k8
  have b3 := zbond_p (u := g.2.1.2.2 x y) (z := g.2.2.2.1) (t := g.2.2.2.2.2.2) (by omega) k9
  have b4 : 1 * 1 ≤ zbond y y g.2.2.1 g.2.2.2.2.2.1 * zbond x x g.2.2.1 g.2.2.2.2.1 := Int.mul_le_mul b2 b1 (by omega) (by omega)
  have b5 : 1 * 1 ≤ zbond y y g.2.2.1 g.2.2.2.2.2.1 * zbond x x g.2.2.1 g.2.2.2.2.1 * zbond (g.2.1.2.2 x y) (g.2.1.2.2 x y) g.2.2.2.1 g.2.2.2.2.2.2 := Int.mul_le_mul (by omega) b3 (by omega) (by omega)
  unfold zRW
  omega
def zShR (g : zGr) (x y : Int) : Int := znear (zRS g x y (g.2.1.2.2 x y)) (zRW g x y (g.2.1.2.2 x y))
theorem c_shadeRead {G : zG} {S : zSh} {σ τ : zSt} {l : Nat} {g : zGr} {x y : Int} (hL : zLat S l) (hg : xrL σ l g) (hxy : aIn g.1 x y) : zC G M_X1_shadeRead [.ref l, vi x, vi y] (S, σ, τ) (fun r w => r = some (vi (zShR g x y)) ∧ ∃ τ' : zSt, w = (S, σ, τ') ∧ (∀ b, b ≠ l → τ' b = τ b)) := by
  obtain ⟨ho, hf0, hf1, hf2, hf3, hf4, hp1, hp3, ho5, ho6, ho7⟩ := id hL
  have ho1 := hp1.1
  have ho3 := hp3.1
  obtain ⟨hk, hP, hP2, hs, hr, hb0, hb1, hb2, hA, hD⟩ := id hg
  have k10 := hk.2.2.2.2.2.2.2.2.2
  have k3 := hk.2.2.1
  have k4 := hk.2.2.2.1
  have kx := k10 x y hxy.1 hxy.2
  have hr1 := zRW_r hk x y (g.2.1.2.2 x y)
  have hr2 := zRW_p hk hxy
  have hw := (hP.wh (by omega)).2
  refine zC_of 0 rfl (Nat.le_of_ble_eq_true rfl) ?_
  refine zw_aload_n 1 rfl dX1_shadeRead_0 rfl ?_
  refine zw_iload_n 2 rfl dX1_shadeRead_1 rfl ?_
  refine zw_iload_n 3 rfl dX1_shadeRead_2 rfl ?_
  refine zw_aload_n 4 rfl dX1_shadeRead_3 rfl ?_
  refine zw_getr 7 rfl dX1_shadeRead_4 fl_X1_18 (by first | assumption | exact zx_o0 | exact zx_o _ _ _ rfl) (by first | assumption | exact zx_f0 _ _ rfl | exact zx_f _ _ _ rfl) ?_
  refine zw_iload_n 8 rfl dX1_shadeRead_7 rfl ?_
  refine zw_iload_n 9 rfl dX1_shadeRead_8 rfl ?_
  refine zw_cVi2 12 rfl dX1_shadeRead_9 kX1_shadeRead_73 (Nat.le_of_ble_eq_true rfl) hp3.1 (c_shadeAt hp3 hP2.1 (by omega) (by omega)) ?_
  rw [hP2.dot (by omega) (by omega) (by omega)]
  refine zw_cVr3 15 rfl dX1_shadeRead_12 kX1_shadeRead_84 (Nat.le_of_ble_eq_true rfl) (by first | assumption | exact zx_o0 | exact zx_o _ _ _ rfl) (c_gather hL hg hxy kx.2) ?_
  rintro _ _ ⟨rfl, τ2, rfl, f1, f2, f3⟩
  refine zw_aload_n 16 rfl dX1_shadeRead_15 rfl ?_
  refine zw_getl 19 rfl dX1_shadeRead_16 fl_X1_88 (by first | assumption | exact zx_o0 | exact zx_o _ _ _ rfl) ?_
  rw [f3]
  refine zw_aload_n 20 rfl dX1_shadeRead_19 rfl ?_
  refine zw_getl 23 rfl dX1_shadeRead_20 fl_X1_92 (by first | assumption | exact zx_o0 | exact zx_o _ _ _ rfl) ?_
  rw [f2]
  refine zw_cSi2 26 rfl dX1_shadeRead_23 kX1_shadeRead_95 (Nat.le_of_ble_eq_true rfl) (c_nearest (by omega) (by omega)) ?_
  exact zw_iret (st := []) dX1_shadeRead_26 rfl ⟨rfl, _, rfl, f1⟩
def aSmG (p q : zPc) (s r n : Int) : zGr := (p, q, s, r, n, n, n)
def aSmo (p q : zPc) (s r n : Int) : zPc := (p.1, p.2.1, zShR (aSmG p q s r n))
theorem aSmG_ok {p q : zPc} {s r n : Int} (hp : (1 ≤ p.1 ∧ p.1 ≤ 16) ∧ 1 ≤ p.2.1 ∧ p.2.1 ≤ 12) (e1 : q.1 = p.1) (e2 : q.2.1 = p.2.1) (hs : 1 ≤ s ∧ s ≤ 8) (hr : 8 ≤ r ∧ r ≤ 128) (hn : 0 ≤ n ∧ n ≤ 3) (hd : aDots p) (hd2 : aDots q) : zGok (aSmG p q s r n) :=
  ⟨⟨by show 0 < p.1; omega, hp.1.2⟩, ⟨by show 0 < p.2.1; omega, hp.2.2⟩, e1, e2, hs, hr, hn, hn, hn, fun x y hx hy => ⟨hd x y hx hy, hd2 x y (by rw [e1]; exact hx) (by rw [e2]; exact hy)⟩⟩
theorem zShR_r {g : zGr} (hk : zGok g) {x y : Int} (hi : aIn g.1 x y) : 0 ≤ zShR g x y ∧ zShR g x y ≤ 255 := by
  have h1 := zRW_r hk x y (g.2.1.2.2 x y)
  have h2 := zRW_p hk hi
  exact znear_r h1.2.1 (by omega) h1.2.2
def xSI (B : Nat) (σ1 : zSt) (w h : Int) (F : Int → Int → Int) (n : Int) (σs : zSt) : Prop := (∀ b, b ≠ B + 2 → b ≠ B + 3 → σs b = σ1 b) ∧ σs (B + 2) 1 = w ∧ σs (B + 2) 2 = h ∧ zfil w F n (σs (B + 3))
theorem xSI.li {B : Nat} {σ1 σs : zSt} {w h n : Int} {F : Int → Int → Int} (hl : xSI B σ1 w h F n σs) : xLI B σ1 w h F n σs := ⟨⟨fun k hk => by rw [hl.1 B (by omega) (by omega)], fun b h1 h2 h3 => hl.1 b (by omega) (by omega)⟩, by rw [hl.1 B (by omega) (by omega)], hl.2.1, hl.2.2.1, hl.2.2.2⟩
theorem xSI.put {B : Nat} {σ1 σs : zSt} {w h x y : Int} {F : Int → Int → Int} (hl : xSI B σ1 w h F (y * w + x) σs) (hx : 0 ≤ x ∧ x < w) (hy : 0 ≤ y) : xSI B σ1 w h F (y * w + x + 1) (zu σs (B + 3) (y * w + x).toNat (F x y)) := ⟨fun b h1 h2 => by rw [zu_row _ _ h2]; exact hl.1 b h1 h2, by rw [zu_row _ _ (by omega)]; exact hl.2.1, by rw [zu_row _ _ (by omega)]; exact hl.2.2.1, (hl.li.put hx hy).2.2.2.2⟩
theorem c_smoothToWork {G : zG} {B a b : Nat} {σ τ : zSt} {p q : zPc} {s r n : Int} (ha : zPic (zxS B) a (a + 1)) (hb : zPic (zxS B) b (b + 1)) (hpa : xrPic σ a p) (hpb : xrPic σ b q) (h0 : 0 < p.1) (e1 : q.1 = p.1) (e2 : q.2.1 = p.2.1) (hna : a = B + 4 ∨ B + 74 ≤ a) (hnb : b = B + 4 ∨ B + 74 ≤ b) (hs : 1 ≤ s ∧ s ≤ 8) (hr : 8 ≤ r ∧ r ≤ 128) (hn : 0 ≤ n ∧ n ≤ 3) : zC G M_X10_smoothToWork [.ref B, .ref a, .ref b, vi s, vi r, vi n] (zxS B, σ, τ) (fun v w => v = none ∧ ∃ σ' τ' : zSt, w = (zxS B, σ', τ') ∧ (∀ c, (c < B + 2 ∨ B + 3 < c) → (c < B + 57 ∨ B + 64 < c) → σ' c = σ c) ∧ (∀ c, c ≠ B + 57 → τ' c = τ c) ∧ xrPic σ' (B + 2) (aSmo p q s r n)) := by
  have hwh := hpa.wh h0
  have hd : aDots p := fun x y hx hy => ((hpa.2.2 h0).2.2 x y hx hy).2
  have hd2 : aDots q := fun x y hx hy => ((hpb.2.2 (by omega)).2.2 x y hx hy).2
  have hk := aSmG_ok hwh.2 e1 e2 hs hr hn hd hd2
  refine zC_of 2 rfl (Nat.le_of_ble_eq_true rfl) ?_
  have body : ∀ σ1 : zSt, (∀ c, (c < B + 57 ∨ B + 57 + 7 < c) → σ1 c = σ c) → xrL σ1 (B + 57) (aSmG p q s r n) → zW G M_X10_smoothToWork (fun v w => v = none ∧ ∃ σ' τ' : zSt, w = (zxS B, σ', τ') ∧ (∀ c, (c < B + 2 ∨ B + 3 < c) → (c < B + 57 ∨ B + 64 < c) → σ' c = σ c) ∧ (∀ c, c ≠ B + 57 → τ' c = τ c) ∧ xrPic σ' (B + 2) (aSmo p q s r n)) 14 [some (.ref B), some (.ref a), some (.ref b), some (vi s), some (vi r), some (vi n), none, none] [] (zxS B, σ1, τ) := by
    intro σ1 hf hg
    have hw1 : σ1 a 1 = p.1 ∧ σ1 a 2 = p.2.1 := by rw [hf a (by omega)]; exact hwh.1
    generalize hF : zShR (aSmG p q s r n) = F
    have hFr : ∀ x y : Int, 0 ≤ x ∧ x < p.1 → 0 ≤ y ∧ y < p.2.1 → 0 ≤ F x y ∧ F x y ≤ 255 := fun x y hx hy => by rw [← hF]; exact zShR_r hk ⟨hx, hy⟩
    have outer : ∀ (fu : Nat) (j : Int) (σs τs : zSt), 0 ≤ j ∧ j ≤ p.2.1 → p.2.1 - j < fu → xSI B σ1 p.1 p.2.1 F (j * p.1) σs → (∀ c, c ≠ B + 57 → τs c = τ c) → zW G M_X10_smoothToWork (fun v w => v = none ∧ ∃ σ' τ' : zSt, w = (zxS B, σ', τ') ∧ (∀ c, (c < B + 2 ∨ B + 3 < c) → (c < B + 57 ∨ B + 64 < c) → σ' c = σ c) ∧ (∀ c, c ≠ B + 57 → τ' c = τ c) ∧ xrPic σ' (B + 2) (aSmo p q s r n)) 32 [some (.ref B), some (.ref a), some (.ref b), some (vi s), some (vi r), some (vi n), some (vi j), none] [] (zxS B, σs, τs) := by
      intro fu
      induction fu with
      | zero => intro j σs τs h1 h2; omega
      | succ fu ih =>
        intro j σs τs h1 h2 hl ht
        have inner : ∀ (fm : Nat) (i : Int) (σs τs : zSt), j < p.2.1 → 0 ≤ i ∧ i ≤ p.1 → p.1 - i < fm → xSI B σ1 p.1 p.2.1 F (j * p.1 + i) σs → (∀ c, c ≠ B + 57 → τs c = τ c) → zW G M_X10_smoothToWork (fun v w => v = none ∧ ∃ σ' τ' : zSt, w = (zxS B, σ', τ') ∧ (∀ c, (c < B + 2 ∨ B + 3 < c) → (c < B + 57 ∨ B + 64 < c) → σ' c = σ c) ∧ (∀ c, c ≠ B + 57 → τ' c = τ c) ∧ xrPic σ' (B + 2) (aSmo p q s r n)) 47 [some (.ref B), some (.ref a), some (.ref b), some (vi s), some (vi r), some (vi n), some (vi j), some (vi i)] [] (zxS B, σs, τs) := by
          intro fm
          induction fm with
          | zero => intro i σs τs h3 h4 h5; omega
          | succ fm ihm =>
            intro i σs τs h3 h4 h5 hl ht
            have hpw := hl.li.pw (by omega) (by omega)
            have hw2 := hl.2.1
            have hh2 := hl.2.2.1
            have hgs : xrL σs (B + 57) (aSmG p q s r n) := hg.c (by rw [hl.1 _ (by omega) (by omega)]) (by rw [hl.1 _ (by omega) (by omega)]) (fun c q1 q2 => hl.1 c (by omega) (by omega))
            refine zw_iload 49 rfl dX10_smoothToWork_47 rfl ?_
            refine zw_aload_n 50 rfl dX10_smoothToWork_49 rfl ?_
            refine zw_getr 53 rfl dX10_smoothToWork_50 fl_X10_16 (by first | assumption | exact zx_o0 | exact zx_o _ _ _ rfl) (by first | assumption | exact zx_f0 _ _ rfl | exact zx_f _ _ _ rfl) ?_
            refine zw_geti 56 rfl dX10_smoothToWork_53 fl_X10_148 (by first | assumption | exact zx_o0 | exact zx_o _ _ _ rfl) ?_
            rw [hw2]
            refine zw_icmp_ge 87 59 rfl dX10_smoothToWork_56 (by decide) (by omega) (by omega) (fun h_56 => ?_) (fun h_56 => ?_)
            · refine zw_iinc 90 rfl dX10_smoothToWork_87 (Nat.le_of_ble_eq_true rfl) rfl rfl ?_
              refine zw_goto 32 dX10_smoothToWork_90 (by decide) ?_
              refine zw_drop 7 ?_
              exact ih (j + 1) _ _ (by omega) (by omega) (by rw [Int.add_mul, Int.one_mul]; rw [show i = p.1 by omega] at hl; exact hl) ht
            · have h_56x : i < p.1 := by omega
              refine zw_aload_n 60 rfl dX10_smoothToWork_59 rfl ?_
              refine zw_getr 63 rfl dX10_smoothToWork_60 fl_X10_16 (by first | assumption | exact zx_o0 | exact zx_o _ _ _ rfl) (by first | assumption | exact zx_f0 _ _ rfl | exact zx_f _ _ _ rfl) ?_
              refine zw_iload 65 rfl dX10_smoothToWork_63 rfl ?_
              refine zw_iload 67 rfl dX10_smoothToWork_65 rfl ?_
              refine zw_aload_n 68 rfl dX10_smoothToWork_67 rfl ?_
              refine zw_getr 71 rfl dX10_smoothToWork_68 fl_X10_65 (by first | assumption | exact zx_o0 | exact zx_o _ _ _ rfl) (by first | assumption | exact zx_f0 _ _ rfl | exact zx_f _ _ _ rfl) ?_
              refine zw_iload 73 rfl dX10_smoothToWork_71 rfl ?_
              refine zw_iload 75 rfl dX10_smoothToWork_73 rfl ?_
              refine zw_cVr2 78 rfl dX10_smoothToWork_75 kX10_smoothToWork_290 (Nat.le_of_ble_eq_true rfl) (by first | assumption | exact zx_o0 | exact zx_o _ _ _ rfl) (c_shadeRead zx_smo hgs ⟨⟨by omega, h_56x⟩, by omega, h3⟩) ?_
              rintro _ _ ⟨rfl, τ2, rfl, f1⟩
              refine zw_cVv3 81 rfl dX10_smoothToWork_78 kX10_smoothToWork_184 (Nat.le_of_ble_eq_true rfl) (by first | assumption | exact zx_o0 | exact zx_o _ _ _ rfl) (c_putShade zx_work hpw (by omega) (by omega)) ?_
              refine zw_iinc 84 rfl dX10_smoothToWork_81 (Nat.le_of_ble_eq_true rfl) rfl rfl ?_
              refine zw_goto 47 dX10_smoothToWork_84 (by decide) ?_
              rw [if_pos (by rw [zHas, hw2, hh2]; omega), hw2, hF]
              exact ihm (i + 1) _ _ h3 (by omega) (by omega) (by rw [← Int.add_assoc]; exact hl.put (by omega) (by omega)) (fun c hc => by rw [f1 c hc]; exact ht c hc)
        have hh2 := hl.2.2.1
        refine zw_iload 34 rfl dX10_smoothToWork_32 rfl ?_
        refine zw_aload_n 35 rfl dX10_smoothToWork_34 rfl ?_
        refine zw_getr 38 rfl dX10_smoothToWork_35 fl_X10_16 (by first | assumption | exact zx_o0 | exact zx_o _ _ _ rfl) (by first | assumption | exact zx_f0 _ _ rfl | exact zx_f _ _ _ rfl) ?_
        refine zw_geti 41 rfl dX10_smoothToWork_38 fl_X10_151 (by first | assumption | exact zx_o0 | exact zx_o _ _ _ rfl) ?_
        rw [hh2]
        refine zw_icmp_ge 93 44 rfl dX10_smoothToWork_41 (by decide) (by omega) (by omega) (fun h_41 => ?_) (fun h_41 => ?_)
        · refine zw_vret (st := []) dX10_smoothToWork_93 rfl ⟨rfl, _, _, rfl, fun c q1 q2 => by rw [hl.1 c (by omega) (by omega)]; exact hf c (by omega), ht, ?_⟩
          unfold aSmo
          rw [hF]
          exact hl.li.pic (by rw [show j = p.2.1 by omega]; exact Int.le_refl _) hwh.2.1 hwh.2.2 hFr
        · refine zw_iconst 45 rfl dX10_smoothToWork_44 ?_
          refine zw_istore 47 rfl dX10_smoothToWork_45 (Nat.le_of_ble_eq_true rfl) rfl ?_
          exact inner (p.1.toNat + 1) 0 _ _ (by omega) (by omega) (by omega) (by rw [Int.add_zero]; exact hl) ht
    refine zw_aload_n 15 rfl dX10_smoothToWork_14 rfl ?_
    refine zw_getr 18 rfl dX10_smoothToWork_15 fl_X10_16 (by first | assumption | exact zx_o0 | exact zx_o _ _ _ rfl) (by first | assumption | exact zx_f0 _ _ rfl | exact zx_f _ _ _ rfl) ?_
    refine zw_aload_n 19 rfl dX10_smoothToWork_18 rfl ?_
    refine zw_geti 22 rfl dX10_smoothToWork_19 fl_X10_148 ha.1 ?_
    refine zw_aload_n 23 rfl dX10_smoothToWork_22 rfl ?_
    refine zw_geti 26 rfl dX10_smoothToWork_23 fl_X10_151 ha.1 ?_
    rw [hw1.1, hw1.2]
    refine zw_cVv2 29 rfl dX10_smoothToWork_26 kX10_smoothToWork_194 (Nat.le_of_ble_eq_true rfl) (by first | assumption | exact zx_o0 | exact zx_o _ _ _ rfl) (c_resize (zx_o 2 5 0 rfl) (by omega) (by omega)) ?_
    refine zw_iconst 30 rfl dX10_smoothToWork_29 ?_
    refine zw_istore 32 rfl dX10_smoothToWork_30 (Nat.le_of_ble_eq_true rfl) rfl ?_
    rw [zhold_in (by omega), zhold_in (by omega)]
    have q0 := xLI.start (B := B) (σ := σ1) (w := p.1) (h := p.2.1) (F := F)
    exact outer (p.2.1.toNat + 1) 0 _ _ (by omega) (by omega) ⟨fun c q1 q2 => by rw [zu_row _ _ q1, zu_row _ _ q1], q0.2.2.1, q0.2.2.2.1, by rw [Int.zero_mul]; exact q0.2.2.2.2⟩ (fun _ _ => rfl)
  refine zw_aload_n 1 rfl dX10_smoothToWork_0 rfl ?_
  refine zw_getr 4 rfl dX10_smoothToWork_1 fl_X10_65 (by first | assumption | exact zx_o0 | exact zx_o _ _ _ rfl) (by first | assumption | exact zx_f0 _ _ rfl | exact zx_f _ _ _ rfl) ?_
  refine zw_aload_n 5 rfl dX10_smoothToWork_4 rfl ?_
  refine zw_aload_n 6 rfl dX10_smoothToWork_5 rfl ?_
  refine zw_iload_n 7 rfl dX10_smoothToWork_6 rfl ?_
  refine zw_iload 9 rfl dX10_smoothToWork_7 rfl ?_
  refine zw_iload 11 rfl dX10_smoothToWork_9 rfl ?_
  refine zw_cVr5 14 rfl dX10_smoothToWork_11 kX10_smoothToWork_234 (Nat.le_of_ble_eq_true rfl) (by first | assumption | exact zx_o0 | exact zx_o _ _ _ rfl) (c_spreadL (g := aSmG p q s r n) zx_smo hk ha hb hpa hpb (by omega) (by omega) rfl rfl rfl rfl rfl) ?_
  rintro _ _ ⟨rfl, σ1, rfl, f1, f2⟩
  exact body σ1 f1 f2
