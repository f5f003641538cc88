/-! ===== how the model holds it ===== -/
def mrPic (f : Nat → Int) (o : Nat) (p : zPc) : Prop := f o = p.1 ∧ (0 ≤ p.1 ∧ p.1 ≤ 16) ∧ (0 < p.1 → f (o + 1) = p.2.1 ∧ (1 ≤ p.2.1 ∧ p.2.1 ≤ 12) ∧ ∀ x y : Int, 0 ≤ x ∧ x < p.1 → 0 ≤ y ∧ y < p.2.1 → f (o + 2 + (16 * y + x).toNat) = p.2.2 x y ∧ 0 ≤ p.2.2 x y ∧ p.2.2 x y ≤ 255)
def mrP (f : Nat → Int) (o : Nat) (P : Nat → zPc) : Prop := ∀ i, i < 6 → mrPic f (o + 194 * i) (P i)
def mrH (C : Nat) (σ : zSt) (Hs : List (Nat → zPc)) : Prop := σ C 23 = Hs.length ∧ Hs.length ≤ 10 ∧ ∀ i, i < Hs.length → mrP (σ (C + 10)) ((Hs.length - 1 - i) * 1164) (Hs.getD i (fun _ => (0, 0, fun _ _ => 0)))
def mrT (C : Nat) (σ : zSt) (t : List Int) : Prop := σ C 4 = t.length ∧ t.length ≤ 700 ∧ ∀ i : Nat, i < t.length → σ (C + 1) i = t.getD i 0 ∧ 0 ≤ t.getD i 0 ∧ t.getD i 0 ≤ 255
def mrE (C : Nat) (σ : zSt) (tr wa fa : Int) : Prop := σ C 1 = tr ∧ σ C 2 = wa ∧ σ C 7 = fa
def mrN (C : Nat) (σ : zSt) (ns : List (List Int)) : Prop := σ C 20 = ns.length ∧ ns.length ≤ 4 ∧ ∀ p : Nat, p < ns.length → σ (C + 8) p = (ns.getD p []).length ∧ (ns.getD p []).length ≤ 16 ∧ ∀ k : Nat, k < (ns.getD p []).length → σ (C + 7) (16 * p + k) = 97 + (ns.getD p []).getD k 0 ∧ 0 ≤ (ns.getD p []).getD k 0 ∧ (ns.getD p []).getD k 0 ≤ 25
/-- the place of a node -/
def mNo (i j k : Int) : Nat := (((i + 3) * 19 + j + 3) * 39 + k + 3).toNat
/-- a grid in the arrays, at half h of them -/
def mrL (C : Nat) (σ τ : zSt) (h : Nat) (g : zGr) : Prop := zGok g ∧ σ (C + 15) h = g.2.2.1 ∧ σ (C + 16) h = g.2.2.2.1 ∧ σ (C + 17) (3 * h) = g.2.2.2.2.1 ∧ σ (C + 17) (3 * h + 1) = g.2.2.2.2.2.1 ∧ σ (C + 17) (3 * h + 2) = g.2.2.2.2.2.2 ∧ ∀ i j k : Int, -3 ≤ i ∧ i ≤ 19 → -3 ≤ j ∧ j ≤ 15 → -3 ≤ k ∧ k ≤ 35 → τ (C + 11) (17043 * h + mNo i j k) = zwt g i j k ∧ τ (C + 12) (17043 * h + mNo i j k) = zsm g i j k
def mrG (C : Nat) (σ τ : zSt) : Option zGr → Prop
  | none => σ C 32 = 0
  | some g => σ C 32 = 1 ∧ mrL C σ τ 0 g ∧ mrPic (σ (C + 18)) 0 g.2.1
def mrI (C : Nat) (σ : zSt) (t : List Int) : Prop := σ C 44 = t.length ∧ t.length ≤ 203 ∧ ∀ i : Nat, i < t.length → σ (C + 22) i = t.getD i 0
def zmR (C : Nat) (σ τ : zSt) (A : zA) : Prop := mrP (σ (C + 9)) 0 (aP A) ∧ mrH C σ (aH A) ∧ mrT C σ (aT A) ∧ mrE C σ (aTr A) (aWa A) (aFa A) ∧ mrN C σ (aN A) ∧ mrG C σ τ (aG A) ∧ mrI C σ (aI A)
def mQ (C : Nat) (r : Int × zA) : Option Value → zWd → Prop := fun v w => v = some (vi r.1) ∧ ∃ σ' τ' : zSt, w = (zmS C, σ', τ') ∧ zmR C σ' τ' r.2
def mQl (C : Nat) (r : Int × zA) : Option Value → zWd → Prop := fun v w => v = some (vl r.1) ∧ ∃ σ' τ' : zSt, w = (zmS C, σ', τ') ∧ zmR C σ' τ' r.2
