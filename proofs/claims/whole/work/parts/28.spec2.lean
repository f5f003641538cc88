/-! ===== what the calls upon pictures answer ===== -/
def aMany (p : zPc) (v : Int) : Int := zwin 0 p.1 0 p.2.1 (fun x y n => n + if p.2.2 x y = v then 1 else 0) 0
def aOth (p q : zPc) : Int := zwin 0 p.1 0 p.2.1 (fun x y n => n + if p.2.2 x y = q.2.2 x y then 0 else 1) 0
def aLeast (p : zPc) : Int := zwin 0 p.1 0 p.2.1 (fun x y m => if p.2.2 x y < m then p.2.2 x y else m) 255
def aMost (p : zPc) : Int := zwin 0 p.1 0 p.2.1 (fun x y m => if m < p.2.2 x y then p.2.2 x y else m) 0
def aSum (p : zPc) : Int := zwin 0 p.1 0 p.2.1 (fun x y m => m + p.2.2 x y) 0
def aUnl (p : zPc) : Int := zfold (fun v m => m + if 0 < aMany p v then 1 else 0) 256 0
def sp_about (A : zA) (p what : Int) : Int × zA := aAns (if aTold A p then if 0 ≤ what ∧ what ≤ 5 then 0 else 1 else 1) (-1) A (if what = 0 then (A.1 p.toNat).1 else if what = 1 then (A.1 p.toNat).2.1 else if what = 2 then aLeast (A.1 p.toNat) else if what = 3 then aMost (A.1 p.toNat) else if what = 4 then aSum (A.1 p.toNat) else aUnl (A.1 p.toNat), A)
def sp_dot (A : zA) (p x y : Int) : Int × zA := aAns (if aDot A p x y then 0 else 1) (-1) A ((A.1 p.toNat).2.2 x y, A)
def sp_often (A : zA) (p v : Int) : Int × zA := aAns (if aTold A p then if 0 ≤ v ∧ v ≤ 255 then 0 else 2 else 1) (-1) A (aMany (A.1 p.toNat) v, A)
def aPut (p : zPc) (x y v : Int) : zPc := (p.1, p.2.1, fun a b => if a = x ∧ b = y then v else p.2.2 a b)
def sp_set (A : zA) (p x y v : Int) : Int × zA := aAns (if aDot A p x y then if 0 ≤ v ∧ v ≤ 255 then 0 else 2 else 1) (-1) A ((A.1 p.toNat).2.2 x y, aAct A p.toNat (aPut (A.1 p.toNat) x y v))
def sp_fill (A : zA) (to w h v : Int) : Int × zA := aAns (if aPl to then if (1 ≤ w ∧ w ≤ 16) ∧ 1 ≤ h ∧ h ≤ 12 then if 0 ≤ v ∧ v ≤ 255 then 0 else 2 else 2 else 1) 0 A (1, aAct A to.toNat (w, h, fun _ _ => v))
def aTurn (p : zPc) (what : Int) : zPc := if what = 3 then (p.2.1, p.1, fun x y => p.2.2 y x) else (p.1, p.2.1, fun x y => if what = 1 then p.2.2 (p.1 - 1 - x) y else if what = 2 then p.2.2 x (p.2.1 - 1 - y) else if what = 4 then 255 - p.2.2 x y else p.2.2 x y)
def sp_turn (A : zA) (to p what : Int) : Int × zA := aAns (if aPl to then if aTold A p then if 0 ≤ what ∧ what ≤ 4 then if what = 3 then if 12 < (A.1 p.toNat).1 then 3 else 0 else 0 else 1 else 1 else 1) 0 A (1, aAct A to.toNat (aTurn (A.1 p.toNat) what))
def aPart (p : zPc) (x y w h : Int) : zPc := (w, h, fun a b => p.2.2 (x + a) (y + b))
def sp_part (A : zA) (to p x y w h : Int) : Int × zA := aAns (if aPl to then if aDot A p x y then if 1 ≤ w ∧ w ≤ (A.1 p.toNat).1 - x then if 1 ≤ h ∧ h ≤ (A.1 p.toNat).2.1 - y then 0 else 2 else 2 else 1 else 1) 0 A (1, aAct A to.toNat (aPart (A.1 p.toNat) x y w h))
def zdraw (s : Int) : Nat → Int
  | 0 => s
  | n + 1 => (75 * zdraw s n + 74) % 65537
def aNoise (p : zPc) (s n : Int) : zPc := (p.1, p.2.1, fun x y => zhold 255 (p.2.2 x y + zdraw s (y * p.1 + x + 1).toNat % (2 * n + 1) - n))
def sp_noise (A : zA) (p s n : Int) : Int × zA := aAns (if aTold A p then if 0 ≤ s ∧ s ≤ 65536 then if 0 ≤ n ∧ n ≤ 127 then 0 else 2 else 2 else 1) (-1) A (aOth (aNoise (A.1 p.toNat) s n) (A.1 p.toNat), aAct A p.toNat (aNoise (A.1 p.toNat) s n))
def sp_undo (A : zA) : Int × zA := match A.2.1 with
  | [] => (-1, aSet A 5)
  | P :: r => (r.length, aSet (P, r, A.2.2) 0)
/-! ===== ends of calls of the class ===== -/
theorem xRef {B : Nat} {σ τ : zSt} {A : zA} {why n : Int} {g : Int × zA} (h : zxR B σ τ A) (h0 : why ≠ 0) (h5 : why ≠ 4 ∧ 0 ≤ why ∧ why ≤ 5) : xQ B (aAns why n A g) (some (vi n)) (zxS B, zu σ B 17 why, τ) := by
  rw [aAns, if_neg h0]
  exact ⟨rfl, _, _, rfl, h.set ⟨fun k hk => zu_k _ _ hk, fun b h1 _ _ => zu_row _ _ (by omega)⟩ rfl (zu_eq _ _ _ _) h5.1 (by omega)⟩
theorem xGood {B : Nat} {σ σ' τ τ' : zSt} {A : zA} {why n e : Int} {g : Int × zA} (h0 : why = 0) (he : e = g.1) (h : zxR B σ' τ' (aSet g.2 0)) : xQ B (aAns why n A g) (some (vi e)) (zxS B, σ', τ') := by
  rw [aAns, if_pos h0, he]
  exact ⟨rfl, _, _, rfl, h⟩
theorem xRead {B : Nat} {σ σ' τ τ' : zSt} {A : zA} {why n e : Int} {g : Int × zA} (h : zxR B σ τ A) (h0 : why = 0) (hs : xScr B σ σ') (ht : τ' (B + 56) = τ (B + 56)) (h17 : σ' B 17 = 0) (he : e = g.1) (hg : g.2 = A) : xQ B (aAns why n A g) (some (vi e)) (zxS B, σ', τ') :=
  xGood (σ := σ) (τ := τ) h0 he (by rw [hg]; exact h.set hs ht h17 (by omega) (by omega))
theorem xScr.z {B : Nat} {σ : zSt} {v : Int} : xScr B σ (zu σ B 17 v) := ⟨fun k hk => zu_k _ _ hk, fun b h1 _ _ => zu_row _ _ (by omega)⟩
theorem zxR.act {B to : Nat} {σ σw σ' τ τ' : zSt} {A : zA} {p : zPc} (h : zxR B σ τ A) (hs : xScr B σ σw) (ht : τ' (B + 56) = τ (B + 56)) (h17 : σw B 17 = 0) (ha : xActed B σw σ' (aP A) (aH A) to p) (hto : to < 6) : zxR B σ' τ' (aSet (aAct A to p) 0) := by
  obtain ⟨a1, a2, a3, a4, a5, a6, a7⟩ := h
  obtain ⟨s1, s2⟩ := hs
  obtain ⟨c1, c2, c3⟩ := ha
  have o : ∀ b, (b < B + 6 ∨ (B + 29 ≤ b ∧ b < B + 74)) → σ' b = σw b := fun b hb => c3 b (by omega) (by simp only [zpa]; omega) (by simp only [zpa]; omega)
  refine ⟨c1, c2, a3.c ?_ ?_, ⟨by rw [o B (by omega)]; exact h17, ?_, ?_, by show -2147483648 ≤ (0 : Int) ∧ (0 : Int) ≤ 2147483647; omega⟩, a5.c (fun b h1 h2 => by rw [o b (by omega), s2 b (by omega) (by omega) (by omega)]), a6.c ?_ ?_ (fun b h1 h2 => by rw [o b (by omega), s2 b (by omega) (by omega) (by omega)]) ht, ?_⟩
  · rw [o (B + 29) (by omega), s2 (B + 29) (by omega) (by omega) (by omega)]
  · rw [o (B + 30) (by omega), s2 (B + 30) (by omega) (by omega) (by omega)]
  · show (-1 : Int) = if (0 : Int) = 4 then _ else -1
    rw [if_neg (by omega)]
  · rw [o B (by omega), s1 15 (by omega)]; exact a4.2.2.1
  · rw [o (B + 47) (by omega), s2 (B + 47) (by omega) (by omega) (by omega)]
  · rw [o (B + 47) (by omega), s2 (B + 47) (by omega) (by omega) (by omega)]
  · unfold xrI at *
    rw [o B (by omega), o (B + 73) (by omega), s1 14 (by omega), s2 (B + 73) (by omega) (by omega) (by omega)]
    exact a7
/-- the relation's parts behind a change of what is scratch -/
theorem xScr.P {B : Nat} {σ σ' : zSt} {P : Nat → zPc} (hs : xScr B σ σ') (h : xrP B σ P) : xrP B σ' P := h.c (fun b h1 h2 => hs.2 b (by omega) (by omega) (by omega))
theorem xScr.H {B : Nat} {σ σ' : zSt} {P : Nat → zPc} {Hs : List (Nat → zPc)} (hs : xScr B σ σ') (h : xrH B σ P Hs) : xrH B σ' P Hs := h.c (fun b h1 h2 => hs.2 b (by omega) (by omega) (by omega))
/-- a fold of numbers and a fold of others, step by step alike -/
theorem zwin_rel {α β : Type} {f : Int → Int → α → α} {g : Int → Int → β → β} {x0 x1 y0 y1 : Int} {a : α} {b : β} (R : α → β → Prop) (h0 : R a b) (hs : ∀ x y a b, x0 ≤ x ∧ x < x1 → y0 ≤ y ∧ y < y1 → R a b → R (f x y a) (g x y b)) : R (zwin x0 x1 y0 y1 f a) (zwin x0 x1 y0 y1 g b) := by
  unfold zwin
  have key : ∀ n (a : α) (b : β), n ≤ (y1 - y0).toNat → R a b → R (zfold (fun j => zfold (fun i => f (x0 + i) (y0 + j)) (x1 - x0).toNat) n a) (zfold (fun j => zfold (fun i => g (x0 + i) (y0 + j)) (x1 - x0).toNat) n b) := by
    intro n
    induction n with
    | zero => intro a b _ h; exact h
    | succ n ih =>
      intro a b hn h
      simp only [zfold]
      have h1 := ih a b (by omega) h
      generalize zfold _ n a = a' at h1
      generalize zfold _ n b = b' at h1
      have key2 : ∀ m, m ≤ (x1 - x0).toNat → R (zfold (fun i => f (x0 + i) (y0 + n)) m a') (zfold (fun i => g (x0 + i) (y0 + n)) m b') := by
        intro m
        induction m with
        | zero => intro _; exact h1
        | succ m ih2 => intro hm; exact hs _ _ _ _ (by omega) (by omega) (ih2 (by omega))
      exact key2 _ (Nat.le_refl _)
  exact key _ a b (Nat.le_refl _) h0
/-- all of a picture's dots -/
theorem aTal_full (t : zTt) (p : zPc) : aTal t p 0 0 p.1 p.2.1 = zwin 0 p.1 0 p.2.1 (fun x y T => tadd T (p.2.2 x y)) t := by
  unfold aTal zmx zmn
  rw [if_neg (by omega), if_neg (by omega), if_neg (by omega)]
  congr 1 <;> omega
theorem aTal_many {t : zTt} {p : zPc} {v : Nat} (hv : v < 256) (h0 : t.1 v = 0) : (zwin 0 p.1 0 p.2.1 (fun x y T => tadd T (p.2.2 x y)) t).1 v = aMany p v := by
  unfold aMany
  refine zwin_rel (fun (T : zTt) (n : Int) => T.1 v = n) h0 (fun x y T n hx hy h => ?_)
  unfold tadd
  split
  · rename_i hr
    simp only
    by_cases e : v = (p.2.2 x y).toNat
    · rw [if_pos e, if_pos (by omega), h]
    · rw [if_neg e, if_neg (by omega), h]; omega
  · rw [if_neg (by omega), h]; omega
theorem xrPic.tk {σ σ' : zSt} {a tt : Nat} {p : zPc} (h : xrPic σ a p) (h0 : 0 < p.1) : tok (p.2.1.toNat * p.1.toNat) (zwin 0 p.1 0 p.2.1 (fun x y T => tadd T (p.2.2 x y)) (zT0 σ' tt)) := by
  have := zwin_ind (f := fun x y T => tadd T (p.2.2 x y)) (x0 := 0) (x1 := p.1) (y0 := 0) (y1 := p.2.1) (fun n T => tok n T) (tok.zero σ' tt) (fun n x y T hx hy hI => hI.add ((h.2.2 h0).2.2 x y hx hy).2)
  rw [show p.2.1 - 0 = p.2.1 by omega, show p.1 - 0 = p.1 by omega] at this
  exact this
theorem zz_nn {w h : Int} (hw : 1 ≤ w ∧ w ≤ 16) (hh : 1 ≤ h ∧ h ≤ 12) : 1 ≤ h.toNat * w.toNat ∧ h.toNat * w.toNat ≤ 192 := by
  have h1 : h.toNat * w.toNat ≤ 12 * 16 := Nat.mul_le_mul (by omega) (by omega)
  have h2 : 1 * 1 ≤ h.toNat * w.toNat := Nat.mul_le_mul (by omega) (by omega)
  omega
