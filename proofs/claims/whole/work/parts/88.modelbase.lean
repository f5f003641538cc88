/-! ===== loops ===== -/
theorem zloop {n : Nat} {L : Nat → Prop} (hE : L n) (hs : ∀ k, k < n → L (k + 1) → L k) : L 0 := by
  have : ∀ d, d ≤ n → L (n - d) := by
    intro d
    induction d with
    | zero => intro _; exact hE
    | succ d ih => intro h; refine hs _ (by omega) ?_; rw [show n - (d + 1) + 1 = n - d by omega]; exact ih (by omega)
  have h := this n (Nat.le_refl _)
  rw [Nat.sub_self] at h
  exact h
/-- rows and columns: O at a row's beginning, N at a dot -/
theorem zrows {w h : Nat} {O : Nat → Prop} {N : Nat → Nat → Prop} (hE : O h) (hO : ∀ j, j < h → N j 0 → O j) (hN : ∀ j i, j < h → i < w → N j (i + 1) → N j i) (hX : ∀ j, j < h → O (j + 1) → N j w) : O 0 :=
  zloop hE (fun j hj hn => hO j hj (zloop (L := fun i => N j i) (hX j hj hn) (fun i hi hh => hN j i hj hi hh)))
/-- a fold over rows and columns, so far -/
def zpt {α : Type} (w : Int) (f : Int → Int → α → α) (a : α) (j i : Nat) : α := zfold (fun i => f i j) i (zfold (fun j => zfold (fun i => f i j) w.toNat) j a)
theorem zpt_s {α : Type} (w : Int) (f : Int → Int → α → α) (a : α) (j i : Nat) : zpt w f a j (i + 1) = f i j (zpt w f a j i) := rfl
theorem zpt_r {α : Type} (w : Int) (f : Int → Int → α → α) (a : α) (j : Nat) : zpt w f a (j + 1) 0 = zpt w f a j w.toNat := rfl
theorem zpt_e {α : Type} (w h : Int) (f : Int → Int → α → α) (a : α) : zwin 0 w 0 h f a = zpt w f a h.toNat 0 := by
  unfold zwin zpt
  rw [show (h - 0).toNat = h.toNat by omega, show (w - 0).toNat = w.toNat by omega]
  show _ = zfold (fun j => zfold (fun i => f i j) w.toNat) h.toNat a
  refine zfold_cong _ _ (fun j b hj => zfold_cong _ _ (fun i c hi => ?_))
  rw [Int.zero_add, Int.zero_add]
/-- a part of a row is another's -/
def zcpy (f g : Nat → Int) (n o d : Nat) : Nat → Int := fun j => if d ≤ j ∧ j < d + n then g (j - d + o) else f j
theorem zcpy_0 (f g : Nat → Int) (o d : Nat) : zcpy f g 0 o d = f := by funext j; unfold zcpy; rw [if_neg (by omega)]
theorem zcpy_s (f g : Nat → Int) (n o d : Nat) : (fun j => if j = d + n then g (n + o) else zcpy f g n o d j) = zcpy f g (n + 1) o d := by
  funext j
  unfold zcpy
  by_cases h1 : j = d + n
  · rw [if_pos h1, if_pos (by omega), show j - d + o = n + o by omega]
  · rw [if_neg h1]
    by_cases h2 : d ≤ j ∧ j < d + n
    · rw [if_pos h2, if_pos (by omega)]
    · rw [if_neg h2, if_neg (by omega)]
theorem zcpy_in (f g : Nat → Int) {n o d j : Nat} (h : j < n) : zcpy f g n o d (d + j) = g (j + o) := by
  unfold zcpy
  rw [if_pos (by omega), show d + j - d + o = j + o by omega]
theorem zcpy_out (f g : Nat → Int) {n o d j : Nat} (h : j < d ∨ d + n ≤ j) : zcpy f g n o d j = f j := by
  unfold zcpy
  rw [if_neg (by omega)]
theorem zu_row2 (σ : zSt) (a k : Nat) (v : Int) : zu σ a k v a = fun j => if j = k then v else σ a j := by funext j; simp [zu]
theorem zu_ne (σ : zSt) {a b k j : Nat} (v : Int) (h : ¬ (b = a ∧ j = k)) : zu σ a k v b j = σ b j := by unfold zu; rw [if_neg h]
/-! ===== what of the model's numbers is looked at ===== -/
def mKey (C b j : Nat) : Prop := (b = C ∧ (j = 4 ∨ j = 7 ∨ j = 20 ∨ j = 23 ∨ j = 32 ∨ j = 44)) ∨ b = C + 1 ∨ b = C + 7 ∨ b = C + 8 ∨ (b = C + 9 ∧ j < 1164) ∨ b = C + 10 ∨ (b = C + 15 ∧ j = 0) ∨ (b = C + 16 ∧ j = 0) ∨ (b = C + 17 ∧ j < 3) ∨ b = C + 18 ∨ b = C + 22
def mScr (C : Nat) (σ σ' : zSt) : Prop := ∀ b j, mKey C b j → σ' b j = σ b j
def mScT (C : Nat) (τ τ' : zSt) : Prop := ∀ j, j < 17043 → τ' (C + 11) j = τ (C + 11) j ∧ τ' (C + 12) j = τ (C + 12) j
theorem mScr.rf {C : Nat} {σ : zSt} : mScr C σ σ := fun _ _ _ => rfl
theorem mScT.rf {C : Nat} {τ : zSt} : mScT C τ τ := fun _ _ => ⟨rfl, rfl⟩
theorem mScr.tr {C : Nat} {σ σ1 σ2 : zSt} (h1 : mScr C σ σ1) (h2 : mScr C σ1 σ2) : mScr C σ σ2 := fun b j h => (h2 b j h).trans (h1 b j h)
theorem mScT.tr {C : Nat} {σ σ1 σ2 : zSt} (h1 : mScT C σ σ1) (h2 : mScT C σ1 σ2) : mScT C σ σ2 := fun j h => ⟨(h2 j h).1.trans (h1 j h).1, (h2 j h).2.trans (h1 j h).2⟩
theorem mScr.u {C a k : Nat} {σ σ1 : zSt} {v : Int} (h1 : mScr C σ σ1) (h : ¬ mKey C a k) : mScr C σ (zu σ1 a k v) := fun b j hk => by
  rw [zu_ne _ _ (fun q => h (by rw [← q.1, ← q.2]; exact hk))]; exact h1 b j hk
theorem mrPic.mv {f f' : Nat → Int} {o o' : Nat} {p : zPc} (h : mrPic f o p) (hf : ∀ j, j < 194 → f' (o' + j) = f (o + j)) : mrPic f' o' p := by
  obtain ⟨h1, h2, h3⟩ := h
  refine ⟨(hf 0 (by omega)).trans h1, h2, fun h0 => ?_⟩
  obtain ⟨g1, g2, g3⟩ := h3 h0
  refine ⟨(hf 1 (by omega)).trans g1, g2, fun x y hx hy => ?_⟩
  have := hf (2 + (16 * y + x).toNat) (by omega)
  rw [← Nat.add_assoc, ← Nat.add_assoc] at this
  rw [this]
  exact g3 x y hx hy
theorem mrP.mv {f f' : Nat → Int} {o o' : Nat} {P : Nat → zPc} (h : mrP f o P) (hf : ∀ j, j < 1164 → f' (o' + j) = f (o + j)) : mrP f' o' P := fun i hi => (h i hi).mv (fun j hj => by rw [Nat.add_assoc, Nat.add_assoc]; exact hf _ (by omega))
theorem mrH.c {C : Nat} {σ σ' : zSt} {Hs : List (Nat → zPc)} (h : mrH C σ Hs) (h1 : σ' C 23 = σ C 23) (h2 : ∀ j, σ' (C + 10) j = σ (C + 10) j) : mrH C σ' Hs := ⟨h1.trans h.1, h.2.1, fun i hi => (h.2.2 i hi).mv (fun j _ => h2 _)⟩
theorem mrT.c {C : Nat} {σ σ' : zSt} {t : List Int} (h : mrT C σ t) (h1 : σ' C 4 = σ C 4) (h2 : ∀ j, σ' (C + 1) j = σ (C + 1) j) : mrT C σ' t := ⟨h1.trans h.1, h.2.1, fun i hi => by rw [h2]; exact h.2.2 i hi⟩
theorem mrN.c {C : Nat} {σ σ' : zSt} {ns : List (List Int)} (h : mrN C σ ns) (h1 : σ' C 20 = σ C 20) (h2 : ∀ j, σ' (C + 8) j = σ (C + 8) j) (h3 : ∀ j, σ' (C + 7) j = σ (C + 7) j) : mrN C σ' ns := ⟨h1.trans h.1, h.2.1, fun p hp => ⟨by rw [h2]; exact (h.2.2 p hp).1, (h.2.2 p hp).2.1, fun k hk => by rw [h3]; exact (h.2.2 p hp).2.2 k hk⟩⟩
theorem mrI.c {C : Nat} {σ σ' : zSt} {t : List Int} (h : mrI C σ t) (h1 : σ' C 44 = σ C 44) (h2 : ∀ j, σ' (C + 22) j = σ (C + 22) j) : mrI C σ' t := ⟨h1.trans h.1, h.2.1, fun i hi => by rw [h2]; exact h.2.2 i hi⟩
theorem mNo_r {i j k : Int} (hi : -3 ≤ i ∧ i ≤ 19) (hj : -3 ≤ j ∧ j ≤ 15) (hk : -3 ≤ k ∧ k ≤ 35) : mNo i j k < 17043 ∧ (mNo i j k : Int) = ((i + 3) * 19 + j + 3) * 39 + k + 3 := by unfold mNo; omega
theorem mrL.c {C h : Nat} {σ σ' τ τ' : zSt} {g : zGr} (hh : mrL C σ τ h g) (h1 : σ' (C + 15) h = σ (C + 15) h) (h2 : σ' (C + 16) h = σ (C + 16) h) (h3 : ∀ j, j < 3 → σ' (C + 17) (3 * h + j) = σ (C + 17) (3 * h + j)) (h4 : ∀ j, j < 17043 → τ' (C + 11) (17043 * h + j) = τ (C + 11) (17043 * h + j) ∧ τ' (C + 12) (17043 * h + j) = τ (C + 12) (17043 * h + j)) : mrL C σ' τ' h g := by
  obtain ⟨a1, a2, a3, a4, a5, a6, a7⟩ := hh
  refine ⟨a1, h1.trans a2, h2.trans a3, (h3 0 (by omega)).trans a4, (h3 1 (by omega)).trans a5, (h3 2 (by omega)).trans a6, fun i j k hi hj hk => ?_⟩
  have r := mNo_r hi hj hk
  rw [(h4 _ r.1).1, (h4 _ r.1).2]
  exact a7 i j k hi hj hk
theorem mrG.c {C : Nat} {σ σ' τ τ' : zSt} {g : Option zGr} (h : mrG C σ τ g) (hs : mScr C σ σ') (ht : mScT C τ τ') : mrG C σ' τ' g := by
  cases g with
  | none => exact (hs C 32 (by unfold mKey; omega)).trans h
  | some g =>
    refine ⟨(hs C 32 (by unfold mKey; omega)).trans h.1, h.2.1.c (hs _ _ (by unfold mKey; omega)) (hs _ _ (by unfold mKey; omega)) (fun j hj => hs _ _ (by unfold mKey; omega)) (fun j hj => ?_), h.2.2.mv (fun j _ => hs _ _ (by unfold mKey; omega))⟩
    rw [Nat.mul_zero, Nat.zero_add]
    exact ht j hj
theorem mScr.P {C : Nat} {σ σ' : zSt} {P : Nat → zPc} (hs : mScr C σ σ') (h : mrP (σ (C + 9)) 0 P) : mrP (σ' (C + 9)) 0 P := h.mv (fun j hj => hs _ _ (by unfold mKey; omega))
theorem mScr.H {C : Nat} {σ σ' : zSt} {Hs : List (Nat → zPc)} (hs : mScr C σ σ') (h : mrH C σ Hs) : mrH C σ' Hs := h.c (hs _ _ (by unfold mKey; omega)) (fun j => hs _ _ (by unfold mKey; omega))
/-- only what is scratch has changed, and trouble -/
theorem zmR.gen {C : Nat} {σ σ' τ τ' : zSt} {A : zA} (h : zmR C σ τ A) (hs : mScr C σ σ') (ht : mScT C τ τ') : zmR C σ' τ' (A.1, A.2.1, A.2.2.1, (σ' C 1, σ' C 2, aFa A), A.2.2.2.2) := by
  obtain ⟨a1, a2, a3, a4, a5, a6, a7⟩ := h
  exact ⟨hs.P a1, hs.H a2, a3.c (hs _ _ (by unfold mKey; omega)) (fun j => hs _ _ (by unfold mKey; omega)), ⟨rfl, rfl, (hs C 7 (by unfold mKey; omega)).trans a4.2.2⟩, a5.c (hs _ _ (by unfold mKey; omega)) (fun j => hs _ _ (by unfold mKey; omega)) (fun j => hs _ _ (by unfold mKey; omega)), a6.c hs ht, a7.c (hs _ _ (by unfold mKey; omega)) (fun j => hs _ _ (by unfold mKey; omega))⟩
theorem zmR.set {C : Nat} {σ σ' τ τ' : zSt} {A : zA} {t : Int} (h : zmR C σ τ A) (hs : mScr C σ σ') (ht : mScT C τ τ') (h1 : σ' C 1 = t) (h2 : σ' C 2 = -1) : zmR C σ' τ' (aSet A t) := by
  have := h.gen hs ht
  rw [h1, h2] at this
  exact this
/-! ===== ends of calls of the model ===== -/
theorem mRef {C : Nat} {σ σ' τ τ' : zSt} {A : zA} {why n t : Int} {g : Int × zA} (h : zmR C σ τ A) (hs : mScr C σ σ') (ht : mScT C τ τ') (hw : why = t) (h0 : t ≠ 0) : mQ C (aAns why n A g) (some (vi n)) (zmS C, zu (zu σ' C 1 t) C 2 (-1), τ') := by
  rw [aAns, if_neg (by omega), hw]
  exact ⟨rfl, _, _, rfl, h.set ((hs.u (by unfold mKey; omega)).u (by unfold mKey; omega)) ht (by rw [zu_k _ _ (by omega), zu_eq]) (zu_eq _ _ _ _)⟩
theorem mRefl {C : Nat} {σ σ' τ τ' : zSt} {A : zA} {why n t : Int} {g : Int × zA} (h : zmR C σ τ A) (hs : mScr C σ σ') (ht : mScT C τ τ') (hw : why = t) (h0 : t ≠ 0) : mQl C (aAns why n A g) (some (vl n)) (zmS C, zu (zu σ' C 1 t) C 2 (-1), τ') := by
  rw [aAns, if_neg (by omega), hw]
  exact ⟨rfl, _, _, rfl, h.set ((hs.u (by unfold mKey; omega)).u (by unfold mKey; omega)) ht (by rw [zu_k _ _ (by omega), zu_eq]) (zu_eq _ _ _ _)⟩
theorem mRead {C : Nat} {σ σ' τ τ' : zSt} {A : zA} {why n e : Int} {g : Int × zA} (h : zmR C σ τ A) (hs : mScr C σ σ') (ht : mScT C τ τ') (hw : why = 0) (he : e = g.1) (hg : g.2 = A) : mQ C (aAns why n A g) (some (vi e)) (zmS C, zu (zu σ' C 1 0) C 2 (-1), τ') := by
  rw [aAns, if_pos hw, hg, he]
  exact ⟨rfl, _, _, rfl, h.set ((hs.u (by unfold mKey; omega)).u (by unfold mKey; omega)) ht (by rw [zu_k _ _ (by omega), zu_eq]) (zu_eq _ _ _ _)⟩
theorem mReadl {C : Nat} {σ σ' τ τ' : zSt} {A : zA} {why n e : Int} {g : Int × zA} (h : zmR C σ τ A) (hs : mScr C σ σ') (ht : mScT C τ τ') (hw : why = 0) (he : e = g.1) (hg : g.2 = A) : mQl C (aAns why n A g) (some (vl e)) (zmS C, zu (zu σ' C 1 0) C 2 (-1), τ') := by
  rw [aAns, if_pos hw, hg, he]
  exact ⟨rfl, _, _, rfl, h.set ((hs.u (by unfold mKey; omega)).u (by unfold mKey; omega)) ht (by rw [zu_k _ _ (by omega), zu_eq]) (zu_eq _ _ _ _)⟩
theorem mThrown {C : Nat} {σ : zSt} {v : Int} : mScr C σ (zu σ C 0 v) := mScr.rf.u (by unfold mKey; omega)
/-- behind an act -/
def mActed (C : Nat) (σ σ' : zSt) (P : Nat → zPc) (Hs : List (Nat → zPc)) (to : Nat) (p : zPc) : Prop := mrP (σ' (C + 9)) 0 (va_up P to p) ∧ mrH C σ' ((P :: Hs).take 10) ∧ ∀ b j, b ≠ C + 9 → b ≠ C + 10 → (b = C → j ≠ 23) → σ' b j = σ b j
theorem mAct {C : Nat} {σ σw σ' τ τ' : zSt} {A : zA} {to : Nat} {p : zPc} {why n e : Int} (h : zmR C σ τ A) (hs : mScr C σ σw) (ht : mScT C τ τ') (ha : mActed C σw σ' (aP A) (aH A) to p) (hw : why = 0) : mQ C (aAns why n A (e, aAct A to p)) (some (vi e)) (zmS C, zu (zu σ' C 1 0) C 2 (-1), τ') := by
  rw [aAns, if_pos hw]
  refine ⟨rfl, _, _, rfl, ?_⟩
  obtain ⟨a1, a2, a3, a4, a5, a6, a7⟩ := h
  obtain ⟨c1, c2, c3⟩ := ha
  generalize hσ2 : zu (zu σ' C 1 0) C 2 (-1) = σ2
  have e1 : ∀ b j, ¬ (b = C ∧ j = 1) → ¬ (b = C ∧ j = 2) → σ2 b j = σ' b j := fun b j h1 h2 => by rw [← hσ2, zu_ne _ _ h2, zu_ne _ _ h1]
  have e2 : ∀ b j, b ≠ C + 9 → b ≠ C + 10 → (b = C → j ≠ 23 ∧ j ≠ 1 ∧ j ≠ 2) → mKey C b j → σ2 b j = σ b j := fun b j h1 h2 h3 h4 => by rw [e1 b j (fun q => (h3 q.1).2.1 q.2) (fun q => (h3 q.1).2.2 q.2), c3 b j h1 h2 (fun q => (h3 q).1)]; exact hs b j h4
  have ek : ∀ b j, b ≠ C + 9 → b ≠ C + 10 → (b = C → j ≠ 23 ∧ j ≠ 1 ∧ j ≠ 2) → mKey C b j → σ2 b j = σ b j := e2
  refine ⟨c1.mv (fun j _ => e1 _ _ (by omega) (by omega)), c2.c (e1 _ _ (by omega) (by omega)) (fun j => e1 _ _ (by omega) (by omega)), a3.c (ek _ _ (by omega) (by omega) (by omega) (by unfold mKey; omega)) (fun j => ek _ _ (by omega) (by omega) (by omega) (by unfold mKey; omega)), ⟨by rw [← hσ2, zu_k _ _ (by omega), zu_eq]; rfl, by rw [← hσ2, zu_eq]; rfl, (ek C 7 (by omega) (by omega) (by omega) (by unfold mKey; omega)).trans a4.2.2⟩, a5.c (ek _ _ (by omega) (by omega) (by omega) (by unfold mKey; omega)) (fun j => ek _ _ (by omega) (by omega) (by omega) (by unfold mKey; omega)) (fun j => ek _ _ (by omega) (by omega) (by omega) (by unfold mKey; omega)), ?_, a7.c (ek _ _ (by omega) (by omega) (by omega) (by unfold mKey; omega)) (fun j => ek _ _ (by omega) (by omega) (by omega) (by unfold mKey; omega))⟩
  show mrG C σ2 τ' (aG A)
  generalize aG A = g at a6
  cases g with
  | none => exact (ek C 32 (by omega) (by omega) (by omega) (by unfold mKey; omega)).trans a6
  | some g =>
    refine ⟨(ek C 32 (by omega) (by omega) (by omega) (by unfold mKey; omega)).trans a6.1, a6.2.1.c (ek _ _ (by omega) (by omega) (by omega) (by unfold mKey; omega)) (ek _ _ (by omega) (by omega) (by omega) (by unfold mKey; omega)) (fun j hj => ek _ _ (by omega) (by omega) (by omega) (by unfold mKey; omega)) (fun j hj => ?_), a6.2.2.mv (fun j _ => ek _ _ (by omega) (by omega) (by omega) (by unfold mKey; omega))⟩
    rw [Nat.mul_zero, Nat.zero_add]
    exact ht j hj
