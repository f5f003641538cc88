/-! ===== rows of a picture in a text ===== -/
abbrev zRw (t : Nat → Int) (s wl : Nat) : Prop := ∀ k, k < wl → t (s + k) ≤ 112
theorem c_isRow {G : zG} {B s wl : Nat} {σ τ : zSt} (hs : xTS B σ s wl) : zC G M_X9_isRow [.ref (B + 29)] (zxS B, σ, τ) (zR (some (vi (zb (zRw (σ (B + 30)) s wl)))) (zxS B, σ, τ)) := by
  obtain ⟨h5, h6, h7, h8⟩ := id hs
  refine zC_of 1 rfl (Nat.le_of_ble_eq_true rfl) ?_
  have loop : ∀ (fu k : Nat), k ≤ wl → wl - k < fu → (∀ j, j < k → σ (B + 30) (s + j) ≤ 112) → zW G M_X9_isRow (zR (some (vi (zb (zRw (σ (B + 30)) s wl)))) (zxS B, σ, τ)) 2 [some (.ref (B + 29)), some (vi k)] [] (zxS B, σ, τ) := by
    intro fu
    induction fu with
    | zero => intro k h1 h2; omega
    | succ fu ih =>
      intro k h1 h2 hk
      have h8k := h8 k
      refine zw_iload_n 3 rfl dX9_isRow_2 rfl ?_
      refine zw_aload_n 4 rfl dX9_isRow_3 rfl ?_
      refine zw_geti 7 rfl dX9_isRow_4 fl_X9_72 (by first | assumption | exact zx_o0 | exact zx_o _ _ _ rfl) ?_
      rw [h6]
      refine zw_icmp_ge 28 10 rfl dX9_isRow_7 (by decide) (by omega) (by omega) (fun h_7 => ?_) (fun h_7 => ?_)
      · refine zw_iconst 29 rfl dX9_isRow_28 ?_
        exact zw_zretR dX9_isRow_29 rfl (by omega) (zb_t (fun j hj => hk j (by omega))) rfl
      · have h8k := h8k (by omega)
        refine zw_aload_n 11 rfl dX9_isRow_10 rfl ?_
        refine zw_iload_n 12 rfl dX9_isRow_11 rfl ?_
        refine zw_cVi1 15 rfl dX9_isRow_12 kX9_isRow_92 (Nat.le_of_ble_eq_true rfl) (by first | assumption | exact zx_o0 | exact zx_o _ _ _ rfl) (c_wordLetter hs (by omega)) ?_
        rw [if_pos (by omega), Int.toNat_natCast]
        refine zw_bipush 17 rfl dX9_isRow_15 rfl ?_
        refine zw_icmp_lt 22 20 rfl dX9_isRow_17 (by decide) (by omega) (by omega) (fun h_17 => ?_) (fun h_17 => ?_)
        · refine zw_iinc 25 rfl dX9_isRow_22 (Nat.le_of_ble_eq_true rfl) rfl rfl ?_
          refine zw_goto 2 dX9_isRow_25 (by decide) ?_
          refine ih (k + 1) (by omega) (by omega) (fun j hj => ?_)
          by_cases e : j = k
          · rw [e]; omega
          · exact hk j (by omega)
        · refine zw_iconst 21 rfl dX9_isRow_20 ?_
          exact zw_zretR dX9_isRow_21 rfl (by omega) (zb_f (fun q => by have := q k (by omega); omega)) rfl
  refine zw_iconst 1 rfl dX9_isRow_0 ?_
  refine zw_istore_n 2 rfl dX9_isRow_1 (Nat.le_of_ble_eq_true rfl) rfl ?_
  exact loop (wl + 1) 0 (by omega) (by omega) (fun j hj => by omega)
/-- a picture that may have no row yet -/
def xrPi (σ : zSt) (a : Nat) (p : zPc) : Prop := (σ a 1 = p.1 ∧ 1 ≤ p.1 ∧ p.1 ≤ 16) ∧ (σ a 2 = p.2.1 ∧ 0 ≤ p.2.1 ∧ p.2.1 ≤ 12) ∧ ∀ x y : Int, 0 ≤ x ∧ x < p.1 → 0 ≤ y ∧ y < p.2.1 → σ (a + 1) (y * p.1 + x).toNat = p.2.2 x y ∧ 0 ≤ p.2.2 x y ∧ p.2.2 x y ≤ 255
theorem xrPi.pw {σ : zSt} {a : Nat} {p : zPc} (h : xrPi σ a p) : zPW σ a := by
  obtain ⟨h1, h2, h3⟩ := h
  unfold zPW; omega
theorem xrPi.pic {σ : zSt} {a : Nat} {p : zPc} (h : xrPi σ a p) (h1 : 1 ≤ p.2.1) : xrPic σ a p := ⟨h.pw, h.1.1, fun _ => ⟨h.2.1.1, h1, h.2.2⟩⟩
theorem xrPic.pi {σ : zSt} {a : Nat} {p : zPc} (h : xrPic σ a p) (h0 : 0 < p.1) : xrPi σ a p := by
  have := h.wh h0
  exact ⟨⟨this.1.1, this.2.1⟩, ⟨this.1.2, by omega, this.2.2.2⟩, (h.2.2 h0).2.2⟩
def aRow (p : zPc) (t : Nat → Int) (s wl : Nat) : zPc := (p.1, p.2.1 + 1, fun x y => if y = p.2.1 then (if x.toNat < wl then 17 * (t (s + x.toNat) - 97) else 0) else p.2.2 x y)
def zRf (p : zPc) (t : Nat → Int) (s wl : Nat) : Int := if (wl : Int) = p.1 ∧ zRw t s wl then if p.2.1 < 12 then 0 else 4 else 2
theorem c_addRow {G : zG} {B a s wl : Nat} {σ τ : zSt} {p : zPc} (hp : zPic (zxS B) a (a + 1)) (h : xrPi σ a p) (hs : xTS B σ s wl) (hw : 1 ≤ wl ∧ wl ≤ 16) (ha : a + 1 < B + 29 ∨ B + 30 < a) : zC G M_X9_addRow [.ref a, .ref (B + 29)] (zxS B, σ, τ) (fun v w => ∃ σ' : zSt, w = (zxS B, σ', τ) ∧ (∀ b, b ≠ a → b ≠ a + 1 → σ' b = σ b) ∧ v = some (vi (zRf p (σ (B + 30)) s wl)) ∧ (zRf p (σ (B + 30)) s wl = 0 → xrPi σ' a (aRow p (σ (B + 30)) s wl))) := by
  obtain ⟨h5, h6, h7, h8⟩ := id hs
  have ho := hp.1
  obtain ⟨p1, p2, p3⟩ := id h
  refine zC_of 1 rfl (Nat.le_of_ble_eq_true rfl) ?_
  have bad : ¬ ((wl : Int) = p.1 ∧ zRw (σ (B + 30)) s wl) → zW G M_X9_addRow (fun v w => ∃ σ' : zSt, w = (zxS B, σ', τ) ∧ (∀ b, b ≠ a → b ≠ a + 1 → σ' b = σ b) ∧ v = some (vi (zRf p (σ (B + 30)) s wl)) ∧ (zRf p (σ (B + 30)) s wl = 0 → xrPi σ' a (aRow p (σ (B + 30)) s wl))) 18 [some (.ref a), some (.ref (B + 29)), none] [] (zxS B, σ, τ) := by
    intro q
    have e : zRf p (σ (B + 30)) s wl = 2 := if_neg q
    refine zw_iconst 19 rfl dX9_addRow_18 ?_
    exact zw_iret (st := []) dX9_addRow_19 rfl ⟨_, rfl, fun _ _ _ => rfl, by rw [e], fun z => by rw [e] at z; omega⟩
  have loop : ((wl : Int) = p.1 ∧ zRw (σ (B + 30)) s wl) → p.2.1 < 12 → ∀ (fu x : Nat) (σs : zSt), (x : Int) ≤ p.1 → p.1 - x < fu → (∀ b, b ≠ a → b ≠ a + 1 → σs b = σ b) → σs a 1 = p.1 → σs a 2 = p.2.1 + 1 → (∀ x' y : Int, 0 ≤ x' ∧ x' < p.1 → 0 ≤ y ∧ y < p.2.1 → σs (a + 1) (y * p.1 + x').toNat = p.2.2 x' y) → (∀ x' : Int, 0 ≤ x' ∧ x' < x → σs (a + 1) (p.2.1 * p.1 + x').toNat = 17 * (σ (B + 30) (s + x'.toNat) - 97)) → zW G M_X9_addRow (fun v w => ∃ σ' : zSt, w = (zxS B, σ', τ) ∧ (∀ b, b ≠ a → b ≠ a + 1 → σ' b = σ b) ∧ v = some (vi (zRf p (σ (B + 30)) s wl)) ∧ (zRf p (σ (B + 30)) s wl = 0 → xrPi σ' a (aRow p (σ (B + 30)) s wl))) 47 [some (.ref a), some (.ref (B + 29)), some (vi x)] [] (zxS B, σs, τ) := by
    intro hg hh fu
    have e : zRf p (σ (B + 30)) s wl = 0 := by rw [zRf, if_pos hg, if_pos hh]
    induction fu with
    | zero => intro x σs q1 q2; omega
    | succ fu ih =>
      intro x σs q1 q2 f0 f1 f2 f3 f4
      have hs2 : xTS B σs s wl := ⟨by rw [f0 _ (by omega) (by omega)]; exact h5, by rw [f0 _ (by omega) (by omega)]; exact h6, h7, fun k hk => by rw [f0 (B + 30) (by omega) (by omega)]; exact h8 k hk⟩
      have hpw : zPW σs a := by unfold zPW; omega
      have n1 : 0 ≤ p.2.1 * p.1 := Int.mul_nonneg (by omega) (by omega)
      refine zw_iload_n 48 rfl dX9_addRow_47 rfl ?_
      refine zw_aload_n 49 rfl dX9_addRow_48 rfl ?_
      refine zw_geti 52 rfl dX9_addRow_49 fl_X9_83 (by first | assumption | exact zx_o0 | exact zx_o _ _ _ rfl) ?_
      rw [f1]
      refine zw_icmp_ge 80 55 rfl dX9_addRow_52 (by decide) (by omega) (by omega) (fun h_52 => ?_) (fun h_52 => ?_)
      · refine zw_iconst 81 rfl dX9_addRow_80 ?_
        refine zw_iret (st := []) dX9_addRow_81 rfl ⟨_, rfl, f0, by rw [e], fun _ => ⟨⟨f1, p1.2⟩, ⟨f2, by show 0 ≤ p.2.1 + 1; omega, by show p.2.1 + 1 ≤ 12; omega⟩, fun x' y hx hy => ?_⟩⟩
        have hx' : 0 ≤ x' ∧ x' < p.1 := hx
        have hy' : 0 ≤ y ∧ y < p.2.1 + 1 := hy
        show σs (a + 1) (y * p.1 + x').toNat = (if y = p.2.1 then _ else _) ∧ 0 ≤ (if y = p.2.1 then _ else _) ∧ (if y = p.2.1 then _ else _) ≤ (255 : Int)
        by_cases r : y = p.2.1
        · rw [if_pos r, if_pos (by omega), r, f4 x' (by omega)]
          have g1 := hg.2 x'.toNat (by omega)
          have g2 := h8 x'.toNat (by omega)
          exact ⟨rfl, by omega, by omega⟩
        · rw [if_neg r]
          exact ⟨f3 x' y hx' (by omega), (p3 x' y hx' (by omega)).2⟩
      · refine zw_aload_n 56 rfl dX9_addRow_55 rfl ?_
        refine zw_iload_n 57 rfl dX9_addRow_56 rfl ?_
        refine zw_aload_n 58 rfl dX9_addRow_57 rfl ?_
        refine zw_geti 61 rfl dX9_addRow_58 fl_X9_89 (by first | assumption | exact zx_o0 | exact zx_o _ _ _ rfl) ?_
        rw [f2]
        refine zw_iconst 62 rfl dX9_addRow_61 ?_
        refine zw_isub 63 rfl dX9_addRow_62 ?_
        refine zw_bipush 65 rfl dX9_addRow_63 rfl ?_
        refine zw_aload_n 66 rfl dX9_addRow_65 rfl ?_
        refine zw_iload_n 67 rfl dX9_addRow_66 rfl ?_
        refine zw_cVi1 70 rfl dX9_addRow_67 kX9_addRow_92 (Nat.le_of_ble_eq_true rfl) (by first | assumption | exact zx_o0 | exact zx_o _ _ _ rfl) (c_wordLetter hs2 (by omega)) ?_
        rw [if_pos (by omega), f0 (B + 30) (by omega) (by omega), Int.toNat_natCast]
        refine zw_imul 71 rfl dX9_addRow_70 ?_
        refine zw_cVv3 74 rfl dX9_addRow_71 kX9_addRow_96 (Nat.le_of_ble_eq_true rfl) (by first | assumption | exact zx_o0 | exact zx_o _ _ _ rfl) (c_putShade hp hpw (by omega) (by omega)) ?_
        refine zw_iinc 77 rfl dX9_addRow_74 (Nat.le_of_ble_eq_true rfl) rfl rfl ?_
        refine zw_goto 47 dX9_addRow_77 (by decide) ?_
        rw [show p.2.1 + 1 - 1 = p.2.1 by omega, if_pos (by rw [zHas, f1, f2]; omega), f1]
        refine ih (x + 1) _ (by omega) (by omega) (fun b r1 r2 => by rw [zu_row _ _ r2]; exact f0 b r1 r2) (by rw [zu_row _ _ (by omega)]; exact f1) (by rw [zu_row _ _ (by omega)]; exact f2) (fun x' y hx hy => ?_) (fun x' hx => ?_)
        · rw [zu_k _ _ (fun r => ?_)]
          · exact f3 x' y hx hy
          · have n2 : 0 ≤ y * p.1 := Int.mul_nonneg hy.1 (by omega)
            have := (zz_uniq (w := p.1) (a := x') (b := y) (x := x) (y := p.2.1) (by omega) hx (by omega) (by omega)).2
            omega
        · by_cases r : x' = x
          · rw [r, zu_eq, Int.toNat_natCast]
          · rw [zu_k _ _ (by omega)]; exact f4 x' (by omega)
  refine zw_aload_n 1 rfl dX9_addRow_0 rfl ?_
  refine zw_geti 4 rfl dX9_addRow_1 fl_X9_72 (by first | assumption | exact zx_o0 | exact zx_o _ _ _ rfl) ?_
  rw [h6]
  refine zw_aload_n 5 rfl dX9_addRow_4 rfl ?_
  refine zw_geti 8 rfl dX9_addRow_5 fl_X9_83 (by first | assumption | exact zx_o0 | exact zx_o _ _ _ rfl) ?_
  rw [p1.1]
  refine zw_icmp_ne 18 11 rfl dX9_addRow_8 (by decide) (by omega) (by omega) (fun h_8 => ?_) (fun h_8 => ?_)
  · first | exact bad (fun q => h_8 q.1) | exact bad (fun q => h_15 q.2)
  · refine zw_aload_n 12 rfl dX9_addRow_11 rfl ?_
    refine zw_cSi1 15 rfl dX9_addRow_12 kX9_addRow_86 (Nat.le_of_ble_eq_true rfl) (c_isRow hs) ?_
    refine zw_if_neB 20 18 rfl dX9_addRow_15 (by decide) (fun h_15 => ?_) (fun h_15 => ?_)
    · refine zw_aload_n 21 rfl dX9_addRow_20 rfl ?_
      refine zw_geti 24 rfl dX9_addRow_21 fl_X9_89 (by first | assumption | exact zx_o0 | exact zx_o _ _ _ rfl) ?_
      rw [p2.1]
      refine zw_bipush 26 rfl dX9_addRow_24 rfl ?_
      refine zw_icmp_lt 31 29 rfl dX9_addRow_26 (by decide) (by omega) (by omega) (fun h_26 => ?_) (fun h_26 => ?_)
      · refine zw_aload_n 32 rfl dX9_addRow_31 rfl ?_
        refine zw_aload_n 33 rfl dX9_addRow_32 rfl ?_
        refine zw_geti 36 rfl dX9_addRow_33 fl_X9_83 (by first | assumption | exact zx_o0 | exact zx_o _ _ _ rfl) ?_
        rw [p1.1]
        refine zw_aload_n 37 rfl dX9_addRow_36 rfl ?_
        refine zw_geti 40 rfl dX9_addRow_37 fl_X9_89 (by first | assumption | exact zx_o0 | exact zx_o _ _ _ rfl) ?_
        rw [p2.1]
        refine zw_iconst 41 rfl dX9_addRow_40 ?_
        refine zw_iadd 42 rfl dX9_addRow_41 ?_
        refine zw_cVv2 45 rfl dX9_addRow_42 kX9_addRow_75 (Nat.le_of_ble_eq_true rfl) (by first | assumption | exact zx_o0 | exact zx_o _ _ _ rfl) (c_resize ho (by omega) (by omega)) ?_
        refine zw_iconst 46 rfl dX9_addRow_45 ?_
        refine zw_istore_n 47 rfl dX9_addRow_46 (Nat.le_of_ble_eq_true rfl) rfl ?_
        rw [zhold_in (by omega), zhold_in (by omega)]
        exact loop ⟨h_8, h_15⟩ (by omega) (p.1.toNat + 1) 0 _ (by omega) (by omega) (fun b r1 r2 => by rw [zu_row _ _ r1, zu_row _ _ r1]) (by rw [zu_k _ _ (by omega), zu_eq]) (zu_eq _ _ _ _) (fun x' y hx hy => by rw [zu_row _ _ (by omega), zu_row _ _ (by omega)]; exact (p3 x' y hx hy).1) (fun x' hx => by omega)
      · refine zw_iconst 30 rfl dX9_addRow_29 ?_
        have e : zRf p (σ (B + 30)) s wl = 4 := by rw [zRf, if_pos ⟨h_8, h_15⟩, if_neg (by omega)]
        exact zw_iret (st := []) dX9_addRow_30 rfl ⟨_, rfl, fun _ _ _ => rfl, by rw [e], fun z => by rw [e] at z; omega⟩
    · first | exact bad (fun q => h_8 q.1) | exact bad (fun q => h_15 q.2)
