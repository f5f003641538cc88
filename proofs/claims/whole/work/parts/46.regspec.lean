/-! ===== sums ===== -/
def zS (f : Nat → Int) (n : Nat) : Int := zfold (fun i s => s + f i) n 0
theorem zS_0 (f : Nat → Int) : zS f 0 = 0 := rfl
theorem zS_s (f : Nat → Int) (n : Nat) : zS f (n + 1) = zS f n + f n := rfl
theorem zS_sh (f : Nat → Int) : ∀ (n : Nat) (a : Int), zfold (fun i s => s + f i) n a = a + zS f n
  | 0, a => by simp [zfold, zS]
  | n + 1, a => by rw [zS_s]; simp only [zfold]; rw [zS_sh f n a]; omega
theorem zS_c {f g : Nat → Int} : ∀ (n : Nat), (∀ i, i < n → f i = g i) → zS f n = zS g n
  | 0, _ => rfl
  | n + 1, h => by rw [zS_s, zS_s, zS_c n (fun i hi => h i (by omega)), h n (by omega)]
theorem zS_le {f g : Nat → Int} : ∀ (n : Nat), (∀ i, i < n → f i ≤ g i) → zS f n ≤ zS g n
  | 0, _ => Int.le_refl _
  | n + 1, h => by rw [zS_s, zS_s]; have := zS_le n (fun i hi => h i (by omega)); have := h n (by omega); omega
theorem zS_k (c : Int) : ∀ (n : Nat), zS (fun _ => c) n = n * c
  | 0 => by simp [zS, zfold]
  | n + 1 => by rw [zS_s, zS_k c n, show (((n + 1 : Nat) : Int)) = (n : Int) + 1 by omega, Int.add_mul, Int.one_mul]
theorem zS_pt {f g : Nat → Int} {k : Nat} : ∀ (n : Nat), k < n → (∀ i, i ≠ k → f i = g i) → zS f n = zS g n + (f k - g k)
  | 0, h, _ => by omega
  | n + 1, hk, h => by
    rw [zS_s, zS_s]
    by_cases e : k = n
    · subst e; rw [zS_c k (fun i hi => h i (by omega))]; omega
    · rw [zS_pt n (by omega) h, h n (fun q => e q.symm)]; omega
theorem zwin_S {x0 x1 y0 y1 : Int} (f : Int → Int → Int) (a : Int) : zwin x0 x1 y0 y1 (fun x y s => s + f x y) a = a + zS (fun j => zS (fun i => f (x0 + i) (y0 + j)) (x1 - x0).toNat) (y1 - y0).toNat := by
  unfold zwin
  rw [← zS_sh]
  exact zfold_cong _ _ (fun j b hj => zS_sh _ _ b)
/-! ===== regions: of each dot the number of its one; what waits ===== -/
abbrev zRg : Type := (Int → Int → Int) × List (Int × Int)
abbrev aIn (p : zPc) (x y : Int) : Prop := (0 ≤ x ∧ x < p.1) ∧ 0 ≤ y ∧ y < p.2.1
def rEnt (p : zPc) (num x y : Int) (s : zRg) : zRg := if aIn p x y ∧ s.1 x y = -1 then ((fun a b => if a = x ∧ b = y then num else s.1 a b), s.2 ++ [(x, y)]) else s
def rIf (p : zPc) (num t st x y : Int) (s : zRg) : zRg := if 0 ≤ st ∧ st ≤ t then rEnt p num x y s else s
def rVis (p : zPc) (num t x y : Int) (s : zRg) : zRg := rIf p num t (zStD p x (y - 1)) x (y - 1) (rIf p num t (zStD p x y) x (y + 1) (rIf p num t (zStR p (x - 1) y) (x - 1) y (rIf p num t (zStR p x y) (x + 1) y s)))
def rFl (p : zPc) (num t : Int) : Nat → Nat → zRg → zRg
  | 0, _, s => s
  | n + 1, k, s => if k < s.2.length then rFl p num t n (k + 1) (rVis p num t (s.2.getD k (0, 0)).1 (s.2.getD k (0, 0)).2 s) else s
abbrev zRm : Type := (Int → Int → Int) × Int
def rStep (p : zPc) (t x y : Int) (s : zRm) : zRm := if s.1 x y = -1 then ((rFl p s.2 t 192 0 (rEnt p s.2 x y (s.1, []))).1, s.2 + 1) else s
def rFind (p : zPc) (t : Int) : zRm := zwin 0 p.1 0 p.2.1 (fun x y s => rStep p t x y s) (fun _ _ => -1, 0)
def rcnt (p : zPc) (num : Int) (R : Int → Int → Int) : Int := zwin 0 p.1 0 p.2.1 (fun x y s => s + if R x y = num then 1 else 0) 0
theorem rcnt_S (p : zPc) (num : Int) (R : Int → Int → Int) : rcnt p num R = zS (fun j => zS (fun i => if R i j = num then 1 else 0) p.1.toNat) p.2.1.toNat := by
  unfold rcnt
  rw [zwin_S, Int.zero_add, Int.sub_zero, Int.sub_zero]
  exact zS_c _ (fun j hj => zS_c _ (fun i hi => by rw [Int.zero_add, Int.zero_add]))
theorem rcnt_le {p : zPc} {num : Int} {R : Int → Int → Int} (hp : 0 ≤ p.1 ∧ 0 ≤ p.2.1) : 0 ≤ rcnt p num R ∧ rcnt p num R ≤ p.2.1 * p.1 := by
  rw [rcnt_S]
  constructor
  · have := zS_le (f := fun _ => 0) (g := fun j => zS (fun i => if R i j = num then (1 : Int) else 0) p.1.toNat) p.2.1.toNat (fun j _ => by have := zS_le (f := fun _ => 0) (g := fun i => if R i j = num then (1 : Int) else 0) p.1.toNat (fun i _ => by split <;> omega); rw [zS_k] at this; simpa using this)
    rw [zS_k] at this
    simpa using this
  · have := zS_le (f := fun j => zS (fun i => if R i j = num then (1 : Int) else 0) p.1.toNat) (g := fun _ => p.1) p.2.1.toNat (fun j _ => by have := zS_le (f := fun i => if R i j = num then (1 : Int) else 0) (g := fun _ => 1) p.1.toNat (fun i _ => by split <;> omega); rw [zS_k] at this; omega)
    rw [zS_k] at this
    rw [show ((p.2.1.toNat : Nat) : Int) = p.2.1 by omega] at this
    exact this
theorem rcnt_up {p : zPc} {num x y : Int} {R : Int → Int → Int} (h : aIn p x y) (hn : R x y ≠ num) : rcnt p num (fun a b => if a = x ∧ b = y then num else R a b) = rcnt p num R + 1 := by
  rw [rcnt_S, rcnt_S]
  have e1 : ∀ j : Nat, j ≠ y.toNat → zS (fun i : Nat => if (if (i : Int) = x ∧ (j : Int) = y then num else R i j) = num then (1 : Int) else 0) p.1.toNat = zS (fun i : Nat => if R i j = num then (1 : Int) else 0) p.1.toNat := fun j hj => zS_c _ (fun i hi => by rw [if_neg (show ¬ ((i : Int) = x ∧ (j : Int) = y) by omega)])
  rw [zS_pt (k := y.toNat) p.2.1.toNat (by omega) e1]
  have e2 := zS_pt (f := fun i : Nat => if (if (i : Int) = x ∧ ((y.toNat : Nat) : Int) = y then num else R i (y.toNat : Nat)) = num then (1 : Int) else 0) (g := fun i : Nat => if R i (y.toNat : Nat) = num then (1 : Int) else 0) (k := x.toNat) p.1.toNat (by omega) (fun i hi => by
    show (if (if (i : Int) = x ∧ ((y.toNat : Nat) : Int) = y then num else R i (y.toNat : Nat)) = num then (1 : Int) else 0) = (if R i (y.toNat : Nat) = num then (1 : Int) else 0)
    rw [if_neg (show ¬ ((i : Int) = x ∧ ((y.toNat : Nat) : Int) = y) by omega)])
  rw [e2]
  have c1 : ((x.toNat : Nat) : Int) = x := by omega
  have c2 : ((y.toNat : Nat) : Int) = y := by omega
  simp only [c1, c2, and_self, if_true, if_neg hn]
  omega
/-- while a region is filled -/
def rI (p : zPc) (num : Int) (s : zRg) : Prop := (s.2.length : Int) = rcnt p num s.1 ∧ (∀ e ∈ s.2, aIn p e.1 e.2) ∧ ∀ x y, -1 ≤ s.1 x y ∧ s.1 x y ≤ 192
theorem rI.room {p : zPc} {num x y : Int} {s : zRg} (h : rI p num s) (hp : (1 ≤ p.1 ∧ p.1 ≤ 16) ∧ 1 ≤ p.2.1 ∧ p.2.1 ≤ 12) (hn : 0 ≤ num) (hi : aIn p x y ∧ s.1 x y = -1) : s.2.length < 192 := by
  have h1 := rcnt_up (num := num) (R := s.1) hi.1 (by rw [hi.2]; omega)
  have h2 := (rcnt_le (p := p) (num := num) (R := fun a b => if a = x ∧ b = y then num else s.1 a b) (by omega)).2
  have h3 := zz_wh (w := p.1) (h := p.2.1) (by omega) (by omega)
  rw [Int.mul_comm] at h2
  have := h.1
  omega
theorem rI.ent {p : zPc} {num x y : Int} {s : zRg} (h : rI p num s) (hn : 0 ≤ num ∧ num ≤ 192) : rI p num (rEnt p num x y s) := by
  unfold rEnt
  split
  · rename_i hi
    refine ⟨?_, fun e he => ?_, fun a b => ?_⟩
    · show (((s.2 ++ [(x, y)]).length : Nat) : Int) = rcnt p num (fun a b => if a = x ∧ b = y then num else s.1 a b)
      rw [rcnt_up hi.1 (by rw [hi.2]; omega), ← h.1]; simp
    · rcases List.mem_append.mp he with q | q
      · exact h.2.1 e q
      · simp at q; subst q; exact hi.1
    · show -1 ≤ (if a = x ∧ b = y then num else s.1 a b) ∧ (if a = x ∧ b = y then num else s.1 a b) ≤ 192
      have := h.2.2 a b
      split <;> omega
  · exact h
theorem rI.rif {p : zPc} {num t st x y : Int} {s : zRg} (h : rI p num s) (hn : 0 ≤ num ∧ num ≤ 192) : rI p num (rIf p num t st x y s) := by
  unfold rIf; split
  · exact h.ent hn
  · exact h
theorem rI.vis {p : zPc} {num t x y : Int} {s : zRg} (h : rI p num s) (hn : 0 ≤ num ∧ num ≤ 192) : rI p num (rVis p num t x y s) := (((h.rif hn).rif hn).rif hn).rif hn
theorem rI.fl {p : zPc} {num t : Int} (hn : 0 ≤ num ∧ num ≤ 192) : ∀ (n k : Nat) (s : zRg), rI p num s → rI p num (rFl p num t n k s)
  | 0, _, s, h => h
  | n + 1, k, s, h => by
    simp only [rFl]
    split
    · exact rI.fl hn n (k + 1) _ (h.vis hn)
    · exact h
/-- numbers so far are below num -/
theorem rcnt_0 {p : zPc} {num : Int} {R : Int → Int → Int} (h : ∀ x y, aIn p x y → R x y < num) : rcnt p num R = 0 := by
  rw [rcnt_S]
  have : ∀ j, j < p.2.1.toNat → zS (fun i : Nat => if R i j = num then (1 : Int) else 0) p.1.toNat = 0 := fun j hj => by
    rw [zS_c (g := fun _ => 0) _ (fun i hi => by rw [if_neg (by have := h i j (by omega); omega)]), zS_k]; simp
  rw [zS_c (g := fun _ => 0) _ this, zS_k]; simp
def rJ (p : zPc) (n : Nat) (s : zRm) : Prop := (0 ≤ s.2 ∧ s.2 ≤ n) ∧ (∀ x y, aIn p x y → s.1 x y < s.2) ∧ ∀ x y, -1 ≤ s.1 x y ∧ s.1 x y ≤ 192
theorem rEnt_lt {p : zPc} {num x y : Int} {s : zRg} (h : ∀ x y, aIn p x y → s.1 x y < num + 1) : ∀ a b, aIn p a b → (rEnt p num x y s).1 a b < num + 1 := by
  intro a b hab
  unfold rEnt
  split
  · show (if a = x ∧ b = y then num else s.1 a b) < num + 1
    have := h a b hab
    split <;> omega
  · exact h a b hab
theorem rIf_lt {p : zPc} {num t st x y : Int} {s : zRg} (h : ∀ x y, aIn p x y → s.1 x y < num + 1) : ∀ a b, aIn p a b → (rIf p num t st x y s).1 a b < num + 1 := by
  unfold rIf; split
  · exact rEnt_lt h
  · exact h
theorem rFl_lt {p : zPc} {num t : Int} : ∀ (n k : Nat) (s : zRg), (∀ x y, aIn p x y → s.1 x y < num + 1) → ∀ a b, aIn p a b → (rFl p num t n k s).1 a b < num + 1
  | 0, _, s, h => h
  | n + 1, k, s, h => by
    simp only [rFl]
    split
    · exact rFl_lt n (k + 1) _ (rIf_lt (rIf_lt (rIf_lt (rIf_lt h))))
    · exact h
theorem rJ.start {p : zPc} {n : Nat} {x y : Int} {s : zRm} (h : rJ p n s) (hn : s.2 ≤ 192) : rI p s.2 (rEnt p s.2 x y (s.1, [])) := by
  have h0 : rI p s.2 (s.1, []) := ⟨by simp [rcnt_0 h.2.1], fun e he => by simp at he, h.2.2⟩
  exact h0.ent ⟨h.1.1, hn⟩
theorem rJ.step {p : zPc} {n : Nat} {t x y : Int} {s : zRm} (h : rJ p n s) (hn : n < 192) : rJ p (n + 1) (rStep p t x y s) := by
  have := h.1
  unfold rStep
  split
  · have hI := rI.fl (t := t) (num := s.2) (by omega) 192 0 _ (h.start (x := x) (y := y) (by omega))
    refine ⟨by show 0 ≤ s.2 + 1 ∧ s.2 + 1 ≤ ((n + 1 : Nat) : Int); omega, fun a b hab => rFl_lt 192 0 _ (rEnt_lt (fun a b hab => by have := h.2.1 a b hab; show s.1 a b < s.2 + 1; omega)) a b hab, hI.2.2⟩
  · exact ⟨by omega, h.2.1, h.2.2⟩
