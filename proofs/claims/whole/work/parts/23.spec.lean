/-! ===== what a ShadeGrid is, in plain numbers ===== -/
/-- a picture: how wide (0: none), how high, the shade at x, y -/
abbrev zPc : Type := Int × Int × (Int → Int → Int)
/-- a grid: of a picture, by a guide, step, range, how often blurred along each way -/
abbrev zGr : Type := zPc × zPc × Int × Int × (Int × Int × Int)
/-- pictures; those ahead of the latest acts; the tape; trouble, where, fault; names; the grid; what was written -/
abbrev zA : Type := (Nat → zPc) × List (Nat → zPc) × List Int × (Int × Int × Int) × List (List Int) × Option zGr × List Int
abbrev aP (A : zA) : Nat → zPc := A.1
abbrev aH (A : zA) : List (Nat → zPc) := A.2.1
abbrev aT (A : zA) : List Int := A.2.2.1
abbrev aTr (A : zA) : Int := A.2.2.2.1.1
abbrev aWa (A : zA) : Int := A.2.2.2.1.2.1
abbrev aFa (A : zA) : Int := A.2.2.2.1.2.2
abbrev aN (A : zA) : List (List Int) := A.2.2.2.2.1
abbrev aG (A : zA) : Option zGr := A.2.2.2.2.2.1
abbrev aI (A : zA) : List Int := A.2.2.2.2.2.2
/-- trouble t (not 4) -/
def aSet (A : zA) (t : Int) : zA := (A.1, A.2.1, A.2.2.1, (t, -1, aFa A), A.2.2.2.2)
def aAct (A : zA) (to : Nat) (p : zPc) : zA := (va_up A.1 to p, (A.1 :: A.2.1).take 10, A.2.2)
abbrev aPl (p : Int) : Prop := 0 ≤ p ∧ p ≤ 5
abbrev aTold (A : zA) (p : Int) : Prop := aPl p ∧ 0 < (A.1 p.toNat).1
abbrev aDot (A : zA) (p x y : Int) : Prop := aTold A p ∧ (0 ≤ x ∧ x < (A.1 p.toNat).1) ∧ 0 ≤ y ∧ y < (A.1 p.toNat).2.1
abbrev aLike (A : zA) (p q : Int) : Prop := (A.1 p.toNat).1 = (A.1 q.toNat).1 ∧ (A.1 p.toNat).2.1 = (A.1 q.toNat).2.1
/-- an answer that may be refused -/
def aAns (why none : Int) (A : zA) (good : Int × zA) : Int × zA := if why = 0 then (good.1, aSet good.2 0) else (none, aSet A why)
/-! ===== how the class holds it ===== -/
def xrPic (σ : zSt) (a : Nat) (p : zPc) : Prop := zPW σ a ∧ σ a 1 = p.1 ∧ (0 < p.1 → σ a 2 = p.2.1 ∧ 1 ≤ p.2.1 ∧ ∀ x y : Int, 0 ≤ x ∧ x < p.1 → 0 ≤ y ∧ y < p.2.1 → σ (a + 1) (y * p.1 + x).toNat = p.2.2 x y ∧ 0 ≤ p.2.2 x y ∧ p.2.2 x y ≤ 255)
theorem xrPic.c {σ σ' : zSt} {a : Nat} {p : zPc} (h : xrPic σ a p) (h1 : σ' a = σ a) (h2 : σ' (a + 1) = σ (a + 1)) : xrPic σ' a p := by
  unfold xrPic zPW at *
  rw [h1, h2]
  exact h
def xrP (B : Nat) (σ : zSt) (P : Nat → zPc) : Prop := ∀ i, i < 6 → xrPic σ (zpa B i) (P i)
theorem xrP.c {B : Nat} {σ σ' : zSt} {P : Nat → zPc} (h : xrP B σ P) (hc : ∀ b, B + 74 ≤ b → b < B + 86 → σ' b = σ b) : xrP B σ' P := fun i hi => (h i hi).c (hc _ (by simp only [zpa]; omega) (by simp only [zpa]; omega)) (hc _ (by simp only [zpa]; omega) (by simp only [zpa]; omega))
def zprv (k : Int) : Int := if 0 < k then k - 1 else 9
def xrHs (B : Nat) (σ : zSt) : Int → (Nat → zPc) → List (Nat → zPc) → Prop
  | _, _, [] => True
  | k, P, S :: r => (∃ p : Nat, p < 6 ∧ σ (B + 8) (zprv k).toNat = p ∧ (∀ i, i ≠ p → P i = S i) ∧ xrPic σ (zha B (zprv k).toNat) (S p)) ∧ xrHs B σ (zprv k) S r
def xrH (B : Nat) (σ : zSt) (P : Nat → zPc) (Hs : List (Nat → zPc)) : Prop := (0 ≤ σ (B + 6) 2 ∧ σ (B + 6) 2 ≤ 9) ∧ σ (B + 6) 3 = Hs.length ∧ Hs.length ≤ 10 ∧ xrHs B σ (σ (B + 6) 2) P Hs
theorem zprv_r {k : Int} (h : 0 ≤ k ∧ k ≤ 9) : 0 ≤ zprv k ∧ zprv k ≤ 9 := by unfold zprv; split <;> omega
theorem xrHs.c {B : Nat} {σ σ' : zSt} : ∀ {Hs : List (Nat → zPc)} {k : Int} {P : Nat → zPc}, 0 ≤ k ∧ k ≤ 9 → xrHs B σ k P Hs → (∀ b, B + 8 ≤ b → b < B + 29 → σ' b = σ b) → xrHs B σ' k P Hs
  | [], _, _, _, _, _ => trivial
  | S :: r, k, P, hk, ⟨⟨p, h1, h2, h3, h4⟩, h5⟩, hc => by
    have hz := zprv_r hk
    exact ⟨⟨p, h1, by rw [hc _ (by omega) (by omega)]; exact h2, h3, h4.c (hc _ (by simp only [zha]; omega) (by simp only [zha]; omega)) (hc _ (by simp only [zha]; omega) (by simp only [zha]; omega))⟩, xrHs.c hz h5 hc⟩
theorem xrH.c {B : Nat} {σ σ' : zSt} {P : Nat → zPc} {Hs : List (Nat → zPc)} (h : xrH B σ P Hs) (hc : ∀ b, B + 6 ≤ b → b < B + 29 → σ' b = σ b) : xrH B σ' P Hs := by
  unfold xrH at *
  rw [hc (B + 6) (by omega) (by omega)]
  exact ⟨h.1, h.2.1, h.2.2.1, h.2.2.2.c h.1 (fun b h1 h2 => hc b (by omega) h2)⟩
def xrT (B : Nat) (σ : zSt) (t : List Int) : Prop := σ (B + 29) 1 = t.length ∧ t.length ≤ 700 ∧ ∀ i : Nat, i < t.length → σ (B + 30) i = t.getD i 0 ∧ 0 ≤ t.getD i 0 ∧ t.getD i 0 ≤ 255
theorem xrT.c {B : Nat} {σ σ' : zSt} {t : List Int} (h : xrT B σ t) (h1 : σ' (B + 29) 1 = σ (B + 29) 1) (h2 : σ' (B + 30) = σ (B + 30)) : xrT B σ' t := by
  unfold xrT at *
  rw [h1, h2]
  exact h
def xrE (B : Nat) (σ : zSt) (tr wa fa : Int) : Prop := σ B 17 = tr ∧ wa = (if tr = 4 then σ B 16 else -1) ∧ σ B 15 = fa ∧ (-2147483648 ≤ tr ∧ tr ≤ 2147483647)
def xrN (B : Nat) (σ : zSt) (ns : List (List Int)) : Prop := σ (B + 44) 2 = ns.length ∧ ns.length ≤ 4 ∧ ∀ p : Nat, p < ns.length → σ (B + 46) p = (ns.getD p []).length ∧ (ns.getD p []).length ≤ 16 ∧ ∀ k : Nat, k < (ns.getD p []).length → σ (B + 45) (16 * p + k) = (ns.getD p []).getD k 0 ∧ 0 ≤ (ns.getD p []).getD k 0 ∧ (ns.getD p []).getD k 0 ≤ 25
theorem xrN.c {B : Nat} {σ σ' : zSt} {ns : List (List Int)} (h : xrN B σ ns) (hc : ∀ b, B + 44 ≤ b → b < B + 47 → σ' b = σ b) : xrN B σ' ns := by
  unfold xrN at *
  rw [hc (B + 44) (by omega) (by omega), hc (B + 45) (by omega) (by omega), hc (B + 46) (by omega) (by omega)]
  exact h
def xrI (B : Nat) (σ : zSt) (t : List Int) : Prop := σ B 14 = t.length ∧ t.length ≤ 203 ∧ ∀ i : Nat, i < t.length → σ (B + 73) i = t.getD i 0
/-! ===== the grid ===== -/
def zecho (t f : Int) : Int := if (0 ≤ t ∧ t ≤ 3) ∧ -t ≤ f ∧ f ≤ t then z_ech (t * 7 + 3 + f).toNat else 0
/-- along one way: what comes to node n from a dot at v -/
def zgift (v n z t : Int) : Int := (z - v % z) * zecho t (n - v / z) + v % z * zecho t (n - v / z - 1)
/-- along one way: what comes to a read at u from a dot at v -/
def zbond (u v z t : Int) : Int := ((z - u % z) * (z - v % z) + u % z * (v % z)) * zecho t (u / z - v / z) + u % z * (z - v % z) * zecho t (u / z - v / z + 1) + (z - u % z) * (v % z) * zecho t (u / z - v / z - 1)
def zsumD (w h : Int) (f : Int → Int → Int) : Int := zwin 0 w 0 h (fun x y a => a + f x y) 0
/-- weight and sum of a node -/
def zwt (g : zGr) (i j k : Int) : Int := zsumD g.1.1 g.1.2.1 (fun x y => zgift x i g.2.2.1 g.2.2.2.2.1 * zgift y j g.2.2.1 g.2.2.2.2.2.1 * zgift (g.2.1.2.2 x y) k g.2.2.2.1 g.2.2.2.2.2.2)
def zsm (g : zGr) (i j k : Int) : Int := zsumD g.1.1 g.1.2.1 (fun x y => zgift x i g.2.2.1 g.2.2.2.2.1 * zgift y j g.2.2.1 g.2.2.2.2.2.1 * zgift (g.2.1.2.2 x y) k g.2.2.2.1 g.2.2.2.2.2.2 * g.1.2.2 x y)
/-- a grid as it may be -/
def zGok (g : zGr) : Prop := (0 < g.1.1 ∧ g.1.1 ≤ 16) ∧ (0 < g.1.2.1 ∧ g.1.2.1 ≤ 12) ∧ g.2.1.1 = g.1.1 ∧ g.2.1.2.1 = g.1.2.1 ∧ (1 ≤ g.2.2.1 ∧ g.2.2.1 ≤ 8) ∧ (8 ≤ g.2.2.2.1 ∧ g.2.2.2.1 ≤ 128) ∧ (0 ≤ g.2.2.2.2.1 ∧ g.2.2.2.2.1 ≤ 3) ∧ (0 ≤ g.2.2.2.2.2.1 ∧ g.2.2.2.2.2.1 ≤ 3) ∧ (0 ≤ g.2.2.2.2.2.2 ∧ g.2.2.2.2.2.2 ≤ 3) ∧ ∀ x y : Int, 0 ≤ x ∧ x < g.1.1 → 0 ≤ y ∧ y < g.1.2.1 → (0 ≤ g.1.2.2 x y ∧ g.1.2.2 x y ≤ 255) ∧ 0 ≤ g.2.1.2.2 x y ∧ g.2.1.2.2 x y ≤ 255
/-- a Lattice at l -/
def xrL (σ : zSt) (l : Nat) (g : zGr) : Prop := zGok g ∧ xrPic σ (l + 1) g.1 ∧ xrPic σ (l + 3) g.2.1 ∧ σ l 5 = g.2.2.1 ∧ σ l 6 = g.2.2.2.1 ∧ σ (l + 5) 0 = g.2.2.2.2.1 ∧ σ (l + 5) 1 = g.2.2.2.2.2.1 ∧ σ (l + 5) 2 = g.2.2.2.2.2.2 ∧ (∀ x u : Int, 0 ≤ x ∧ x < g.1.1 → 0 ≤ u ∧ u < g.1.1 → σ (l + 6) (x * 16 + u).toNat = zbond x u g.2.2.1 g.2.2.2.2.1) ∧ ∀ y v : Int, 0 ≤ y ∧ y < g.1.2.1 → 0 ≤ v ∧ v < g.1.2.1 → σ (l + 7) (y * 12 + v).toNat = zbond y v g.2.2.1 g.2.2.2.2.2.1
theorem xrL.c {σ σ' : zSt} {l : Nat} {g : zGr} (h : xrL σ l g) (h5 : σ' l 5 = σ l 5) (h6 : σ' l 6 = σ l 6) (hc : ∀ b, l < b → b < l + 8 → σ' b = σ b) : xrL σ' l g := by
  unfold xrL at *
  obtain ⟨a1, a2, a3, a4, a5, a6⟩ := h
  refine ⟨a1, a2.c (hc _ (by omega) (by omega)) (hc _ (by omega) (by omega)), a3.c (hc _ (by omega) (by omega)) (hc _ (by omega) (by omega)), by rw [h5]; exact a4, by rw [h6]; exact a5, ?_⟩
  rw [hc (l + 5) (by omega) (by omega), hc (l + 6) (by omega) (by omega), hc (l + 7) (by omega) (by omega)]
  exact a6
/-- which nodes weigh: a bit for each k, from -3 on, of the columns i, j, from -3 on -/
def xrC (τ : zSt) (a : Nat) (g : zGr) : Prop := ∀ c : Nat, c < 396 → (0 ≤ τ a c ∧ τ a c < 1099511627776) ∧ ∀ k : Nat, (τ a c).toNat.testBit k = decide (0 < zwt g ((c / 18 : Nat) - 3 : Int) ((c % 18 : Nat) - 3 : Int) ((k : Int) - 3))
def xrG (B : Nat) (σ τ : zSt) : Option zGr → Prop
  | none => σ (B + 47) 5 = 0
  | some g => xrL σ (B + 47) g ∧ xrC τ (B + 56) g
theorem xrG.c {B : Nat} {σ σ' τ τ' : zSt} {g : Option zGr} (h : xrG B σ τ g) (h5 : σ' (B + 47) 5 = σ (B + 47) 5) (h6 : σ' (B + 47) 6 = σ (B + 47) 6) (hc : ∀ b, B + 47 < b → b < B + 55 → σ' b = σ b) (ht : τ' (B + 56) = τ (B + 56)) : xrG B σ' τ' g := by
  cases g with
  | none => exact h5.trans h
  | some g => exact ⟨h.1.c h5 h6 (fun b h1 h2 => hc b h1 (by omega)), by unfold xrC; rw [ht]; exact h.2⟩
def zxR (B : Nat) (σ τ : zSt) (A : zA) : Prop := xrP B σ (aP A) ∧ xrH B σ (aP A) (aH A) ∧ xrT B σ (aT A) ∧ xrE B σ (aTr A) (aWa A) (aFa A) ∧ xrN B σ (aN A) ∧ xrG B σ τ (aG A) ∧ xrI B σ (aI A)
/-- only what is scratch has changed -/
def xScr (B : Nat) (σ σ' : zSt) : Prop := (∀ k, k ≠ 17 → σ' B k = σ B k) ∧ ∀ b, B < b → b < B + 86 → (b < B + 2 ∨ (B + 6 ≤ b ∧ b < B + 31) ∨ (B + 44 ≤ b ∧ b < B + 57) ∨ B + 73 ≤ b) → σ' b = σ b
theorem xScr.rf {B : Nat} {σ : zSt} : xScr B σ σ := ⟨fun _ _ => rfl, fun _ _ _ _ => rfl⟩
theorem xScr.tr {B : Nat} {σ σ1 σ2 : zSt} (h1 : xScr B σ σ1) (h2 : xScr B σ1 σ2) : xScr B σ σ2 := ⟨fun k h => (h2.1 k h).trans (h1.1 k h), fun b a c d => (h2.2 b a c d).trans (h1.2 b a c d)⟩
/-- behind a call that was refused, or changed only what is scratch -/
theorem zxR.set {B : Nat} {σ σ' τ τ' : zSt} {A : zA} {t : Int} (h : zxR B σ τ A) (hs : xScr B σ σ') (ht : τ' (B + 56) = τ (B + 56)) (h17 : σ' B 17 = t) (h4 : t ≠ 4) (hr : -2147483648 ≤ t ∧ t ≤ 2147483647) : zxR B σ' τ' (aSet A t) := by
  obtain ⟨a1, a2, a3, a4, a5, a6, a7⟩ := h
  obtain ⟨s1, s2⟩ := hs
  refine ⟨a1.c (fun b h1 h2 => s2 b (by omega) (by omega) (by omega)), a2.c (fun b h1 h2 => s2 b (by omega) (by omega) (by omega)), a3.c (by rw [s2 (B + 29) (by omega) (by omega) (by omega)]) (s2 (B + 30) (by omega) (by omega) (by omega)), ⟨h17, ?_, ?_, hr⟩, a5.c (fun b h1 h2 => s2 b (by omega) (by omega) (by omega)), a6.c (by rw [s2 (B + 47) (by omega) (by omega) (by omega)]) (by rw [s2 (B + 47) (by omega) (by omega) (by omega)]) (fun b h1 h2 => s2 b (by omega) (by omega) (by omega)) ht, ?_⟩
  · show (-1 : Int) = if t = 4 then σ' B 16 else -1
    rw [if_neg h4]
  · rw [s1 15 (by omega)]; exact a4.2.2.1
  · unfold xrI at *
    rw [s1 14 (by omega), s2 (B + 73) (by omega) (by omega) (by omega)]
    exact a7
/-- the end of a call of the class: its answer, and what it is then -/
def xQ (B : Nat) (r : Int × zA) : Option Value → zWd → Prop := fun v w => v = some (vi r.1) ∧ ∃ σ' τ' : zSt, w = (zxS B, σ', τ') ∧ zxR B σ' τ' r.2
def xQl (B : Nat) (r : Int × zA) : Option Value → zWd → Prop := fun v w => v = some (vl r.1) ∧ ∃ σ' τ' : zSt, w = (zxS B, σ', τ') ∧ zxR B σ' τ' r.2
