/-- the Regions object while a region is filled -/
def xRG (B : Nat) (σ1 : zSt) (p : zPc) (s : zRg) (num : Int) (σs : zSt) : Prop := (∀ b, (b < B + 67 ∨ B + 70 < b) → σs b = σ1 b) ∧ (∀ x y, aIn p x y → σs (B + 68) (y * p.1 + x).toNat = s.1 x y) ∧ (∀ k, k < s.2.length → σs (B + 69) k = (s.2.getD k (0, 0)).1 ∧ σs (B + 70) k = (s.2.getD k (0, 0)).2) ∧ σs (B + 67) 3 = s.2.length ∧ σs (B + 67) 4 = num
theorem xRG.pic {B a : Nat} {σ1 σs : zSt} {p : zPc} {s : zRg} {num : Int} (hg : xRG B σ1 p s num σs) (h : xrPic σ1 a p) (hn : B + 74 ≤ a ∧ a + 1 < B + 86) : xrPic σs a p := h.c (hg.1 _ (by omega)) (hg.1 _ (by omega))
theorem xRG.put {B : Nat} {σ1 σs : zSt} {p : zPc} {s : zRg} {num x y : Int} (hg : xRG B σ1 p s num σs) (hp : (1 ≤ p.1 ∧ p.1 ≤ 16) ∧ 1 ≤ p.2.1 ∧ p.2.1 ≤ 12) (hi : aIn p x y) : xRG B σ1 p ((fun a b => if a = x ∧ b = y then num else s.1 a b), s.2 ++ [(x, y)]) num (zu (zu (zu (zu σs (B + 68) (y * p.1 + x).toNat num) (B + 69) s.2.length x) (B + 70) s.2.length y) (B + 67) 3 (s.2.length + 1)) := by
  obtain ⟨a1, a2, a3, a4, a5⟩ := hg
  have i1 := zz_ix hi.1 hi.2 hp.1.2 hp.2.2
  refine ⟨fun b hb => by rw [zu_row _ _ (by omega), zu_row _ _ (by omega), zu_row _ _ (by omega), zu_row _ _ (by omega)]; exact a1 b hb, fun c d hcd => ?_, fun k hk => ?_, by rw [zu_eq]; simp, ?_⟩
  · rw [zu_row _ _ (by omega), zu_row _ _ (by omega), zu_row _ _ (by omega)]
    show _ = if c = x ∧ d = y then num else s.1 c d
    have i2 := zz_ix hcd.1 hcd.2 hp.1.2 hp.2.2
    by_cases e : c = x ∧ d = y
    · rw [if_pos e, e.1, e.2, zu_eq]
    · rw [if_neg e, zu_k _ _ (fun q => e (zz_uniq (by omega) hcd.1 hi.1 (by omega)))]
      exact a2 c d hcd
  · rw [zu_row _ _ (by omega), zu_row (b := B + 70) _ _ (by omega)]
    simp only [List.length_append, List.length_cons, List.length_nil] at hk
    by_cases e : k = s.2.length
    · subst e
      refine ⟨?_, ?_⟩
      · rw [zu_row _ _ (by omega), zu_eq]; simp
      · rw [zu_eq]; simp
    · rw [zu_row _ _ (show B + 69 ≠ B + 70 by omega), zu_k _ _ e, zu_k _ _ e]
      have : (s.2 ++ [(x, y)]).getD k (0, 0) = s.2.getD k (0, 0) := by simp [List.getD, List.getElem?_append_left (show k < s.2.length by omega)]
      rw [this]
      have := a3 k (by omega)
      refine ⟨?_, ?_⟩
      · rw [zu_row _ _ (by omega)]; exact this.1
      · first | exact this.2 | (rw [zu_row _ _ (by omega), zu_row _ _ (by omega)]; exact this.2)
  · rw [zu_k _ _ (by omega), zu_row _ _ (by omega), zu_row _ _ (by omega), zu_row _ _ (by omega)]; exact a5
theorem c_enter {G : zG} {B a : Nat} {σ σ1 τ : zSt} {p : zPc} {s : zRg} {num x y : Int} (hp : zPic (zxS B) a (a + 1)) (h : xrPic σ1 a p) (h0 : 0 < p.1) (hn : B + 74 ≤ a ∧ a + 1 < B + 86) (hg : xRG B σ1 p s num σ) (hI : rI p num s) (hnum : 0 ≤ num ∧ num ≤ 192) (hx : -2147483648 ≤ x ∧ x ≤ 2147483647) (hy : -2147483648 ≤ y ∧ y ≤ 2147483647) : zC G M_X6_enter [.ref (B + 67), .ref a, vi x, vi y] (zxS B, σ, τ) (fun r w => r = none ∧ ∃ σ' : zSt, w = (zxS B, σ', τ) ∧ xRG B σ1 p (rEnt p num x y s) num σ') := by
  have hpS := hg.pic h hn
  have hwh := hpS.wh h0
  obtain ⟨a1, a2, a3, a4, a5⟩ := id hg
  refine zC_of 0 rfl (Nat.le_of_ble_eq_true rfl) ?_
  have K : ¬ (aIn p x y ∧ s.1 x y = -1) → zW G M_X6_enter (fun r w => r = none ∧ ∃ σ' : zSt, w = (zxS B, σ', τ) ∧ xRG B σ1 p (rEnt p num x y s) num σ') 79 [some (.ref (B + 67)), some (.ref a), some (vi x), some (vi y)] [] (zxS B, σ, τ) := fun q => zw_vret (st := []) dX6_enter_79 rfl ⟨rfl, _, rfl, by rw [rEnt, if_neg q]; exact hg⟩
  have K2 : (aIn p x y ∧ s.1 x y = -1) → zW G M_X6_enter (fun r w => r = none ∧ ∃ σ' : zSt, w = (zxS B, σ', τ) ∧ xRG B σ1 p (rEnt p num x y s) num σ') 79 [some (.ref (B + 67)), some (.ref a), some (vi x), some (vi y)] [] (zxS B, zu (zu (zu (zu σ (B + 68) (y * p.1 + x).toNat num) (B + 69) s.2.length x) (B + 70) s.2.length y) (B + 67) 3 (s.2.length + 1), τ) := fun q => zw_vret (st := []) dX6_enter_79 rfl ⟨rfl, _, rfl, by rw [rEnt, if_pos q]; exact hg.put hwh.2 q.1⟩
  have e67 : ∀ v w u, zu (zu (zu σ (B + 68) v num) (B + 69) w x) (B + 70) u y (B + 67) = σ (B + 67) := fun v w u => by rw [zu_row _ _ (by omega), zu_row _ _ (by omega), zu_row _ _ (by omega)]
  refine zw_aload_n 1 rfl dX6_enter_0 rfl ?_
  refine zw_iload_n 2 rfl dX6_enter_1 rfl ?_
  refine zw_iload_n 3 rfl dX6_enter_2 rfl ?_
  refine zw_cVi2 6 rfl dX6_enter_3 kX6_enter_64 (Nat.le_of_ble_eq_true rfl) hp.1 (c_contains hp hpS.1 hx hy) ?_
  refine zw_if_eqB 79 9 rfl dX6_enter_6 (by decide) (fun h_6 => ?_) (fun h_6 => ?_)
  · first | exact K (fun q => h_6 (by rw [zHas, hwh.1.1, hwh.1.2]; exact q.1)) | exact K (fun q => h_21 q.2) | exact K2 ⟨hin, h_21⟩ | (exfalso; have := hI.room hwh.2 hnum.1 ⟨hin, h_21⟩; omega)
  · have hin : aIn p x y := by rw [zHas, hwh.1.1, hwh.1.2] at h_6; exact h_6
    have i1 := zz_ix hin.1 hin.2 hwh.2.1.2 hwh.2.2.2
    refine zw_aload_n 10 rfl dX6_enter_9 rfl ?_
    refine zw_getr 13 rfl dX6_enter_10 fl_X6_9 (by first | assumption | exact zx_o0 | exact zx_o _ _ _ rfl) (by first | assumption | exact zx_f0 _ _ rfl | exact zx_f _ _ _ rfl) ?_
    refine zw_aload_n 14 rfl dX6_enter_13 rfl ?_
    refine zw_iload_n 15 rfl dX6_enter_14 rfl ?_
    refine zw_iload_n 16 rfl dX6_enter_15 rfl ?_
    refine zw_cVi2 19 rfl dX6_enter_16 kX6_enter_39 (Nat.le_of_ble_eq_true rfl) hp.1 (c_indexOf hp hpS.1 hx hy) ?_
    rw [if_pos h_6, hwh.1.1]
    refine zw_iald 20 rfl dX6_enter_19 (by first | assumption | exact zx_o0 | exact zx_o _ _ _ rfl) (by omega) (by omega) ?_
    rw [a2 x y hin]
    have hr := hI.2.2 x y
    refine zw_iconst 21 rfl dX6_enter_20 ?_
    refine zw_icmp_ne 79 24 rfl dX6_enter_21 (by decide) (by omega) (by omega) (fun h_21 => ?_) (fun h_21 => ?_)
    · first | exact K (fun q => h_6 (by rw [zHas, hwh.1.1, hwh.1.2]; exact q.1)) | exact K (fun q => h_21 q.2) | exact K2 ⟨hin, h_21⟩ | (exfalso; have := hI.room hwh.2 hnum.1 ⟨hin, h_21⟩; omega)
    · have hlt := hI.room hwh.2 hnum.1 ⟨hin, h_21⟩
      refine zw_aload_n 25 rfl dX6_enter_24 rfl ?_
      refine zw_geti 28 rfl dX6_enter_25 fl_X6_47 (by first | assumption | exact zx_o0 | exact zx_o _ _ _ rfl) ?_
      refine zw_sipush 31 rfl dX6_enter_28 rfl ?_
      rw [a4]
      refine zw_icmp_ge 79 34 rfl dX6_enter_31 (by decide) (by omega) (by omega) (fun h_31 => ?_) (fun h_31 => ?_)
      · first | exact K (fun q => h_6 (by rw [zHas, hwh.1.1, hwh.1.2]; exact q.1)) | exact K (fun q => h_21 q.2) | exact K2 ⟨hin, h_21⟩ | (exfalso; have := hI.room hwh.2 hnum.1 ⟨hin, h_21⟩; omega)
      · refine zw_aload_n 35 rfl dX6_enter_34 rfl ?_
        refine zw_getr 38 rfl dX6_enter_35 fl_X6_9 (by first | assumption | exact zx_o0 | exact zx_o _ _ _ rfl) (by first | assumption | exact zx_f0 _ _ rfl | exact zx_f _ _ _ rfl) ?_
        refine zw_aload_n 39 rfl dX6_enter_38 rfl ?_
        refine zw_iload_n 40 rfl dX6_enter_39 rfl ?_
        refine zw_iload_n 41 rfl dX6_enter_40 rfl ?_
        refine zw_cVi2 44 rfl dX6_enter_41 kX6_enter_39 (Nat.le_of_ble_eq_true rfl) hp.1 (c_indexOf hp hpS.1 hx hy) ?_
        rw [if_pos h_6, hwh.1.1]
        refine zw_aload_n 45 rfl dX6_enter_44 rfl ?_
        refine zw_geti 48 rfl dX6_enter_45 fl_X6_27 (by first | assumption | exact zx_o0 | exact zx_o _ _ _ rfl) ?_
        rw [a5]
        refine zw_iast 49 rfl dX6_enter_48 (by first | assumption | exact zx_o0 | exact zx_o _ _ _ rfl) (by omega) (by omega) ?_
        refine zw_aload_n 50 rfl dX6_enter_49 rfl ?_
        refine zw_getr 53 rfl dX6_enter_50 fl_X6_15 (by first | assumption | exact zx_o0 | exact zx_o _ _ _ rfl) (by first | assumption | exact zx_f0 _ _ rfl | exact zx_f _ _ _ rfl) ?_
        refine zw_aload_n 54 rfl dX6_enter_53 rfl ?_
        refine zw_geti 57 rfl dX6_enter_54 fl_X6_47 (by first | assumption | exact zx_o0 | exact zx_o _ _ _ rfl) ?_
        rw [zu_row _ _ (by omega), a4]
        refine zw_iload_n 58 rfl dX6_enter_57 rfl ?_
        refine zw_iast 59 rfl dX6_enter_58 (by first | assumption | exact zx_o0 | exact zx_o _ _ _ rfl) (by omega) (by omega) ?_
        rw [Int.toNat_natCast]
        refine zw_aload_n 60 rfl dX6_enter_59 rfl ?_
        refine zw_getr 63 rfl dX6_enter_60 fl_X6_18 (by first | assumption | exact zx_o0 | exact zx_o _ _ _ rfl) (by first | assumption | exact zx_f0 _ _ rfl | exact zx_f _ _ _ rfl) ?_
        refine zw_aload_n 64 rfl dX6_enter_63 rfl ?_
        refine zw_geti 67 rfl dX6_enter_64 fl_X6_47 (by first | assumption | exact zx_o0 | exact zx_o _ _ _ rfl) ?_
        rw [zu_row _ _ (by omega), zu_row _ _ (by omega), a4]
        refine zw_iload_n 68 rfl dX6_enter_67 rfl ?_
        refine zw_iast 69 rfl dX6_enter_68 (by first | assumption | exact zx_o0 | exact zx_o _ _ _ rfl) (by omega) (by omega) ?_
        rw [Int.toNat_natCast]
        refine zw_aload_n 70 rfl dX6_enter_69 rfl ?_
        refine zw_dup 71 rfl dX6_enter_70 rfl ?_
        refine zw_geti 74 rfl dX6_enter_71 fl_X6_47 (by first | assumption | exact zx_o0 | exact zx_o _ _ _ rfl) ?_
        rw [e67, a4]
        refine zw_iconst 75 rfl dX6_enter_74 ?_
        refine zw_iadd 76 rfl dX6_enter_75 ?_
        refine zw_puti 79 rfl dX6_enter_76 fp_X6_47 (by first | assumption | exact zx_o0 | exact zx_o _ _ _ rfl) ?_
        first | exact K (fun q => h_6 (by rw [zHas, hwh.1.1, hwh.1.2]; exact q.1)) | exact K (fun q => h_21 q.2) | exact K2 ⟨hin, h_21⟩ | (exfalso; have := hI.room hwh.2 hnum.1 ⟨hin, h_21⟩; omega)
theorem xRG.q {B : Nat} {σ1 σs : zSt} {p : zPc} {s : zRg} {num : Int} {k : Nat} (hg : xRG B σ1 p s num σs) (hI : rI p num s) (hk : k < s.2.length) : (σs (B + 69) k = (s.2.getD k (0, 0)).1 ∧ σs (B + 70) k = (s.2.getD k (0, 0)).2) ∧ aIn p (s.2.getD k (0, 0)).1 (s.2.getD k (0, 0)).2 := by
  refine ⟨hg.2.2.1 k hk, hI.2.1 _ ?_⟩
  rw [List.getD_eq_getElem?_getD, List.getElem?_eq_getElem hk]
  simp
theorem c_flood {G : zG} {B a : Nat} {σ σ1 τ : zSt} {p : zPc} {s : zRg} {num x y t : Int} (hp : zPic (zxS B) a (a + 1)) (h : xrPic σ1 a p) (h0 : 0 < p.1) (hn : B + 74 ≤ a ∧ a + 1 < B + 86) (hg : xRG B σ1 p (s.1, []) num (zu σ (B + 67) 3 0)) (hI : rI p num (rEnt p num x y (s.1, []))) (hI0 : rI p num (s.1, [])) (hnum : 0 ≤ num ∧ num ≤ 192) (ht : 0 ≤ t ∧ t ≤ 255) (hx : -2147483648 ≤ x ∧ x ≤ 2147483647) (hy : -2147483648 ≤ y ∧ y ≤ 2147483647) : zC G M_X6_flood [.ref (B + 67), .ref a, vi t, vi x, vi y] (zxS B, σ, τ) (fun r w => r = none ∧ ∃ σ' : zSt, w = (zxS B, σ', τ) ∧ xRG B σ1 p (rFl p num t 192 0 (rEnt p num x y (s.1, []))) num σ') := by
  have hwh0 := h.wh h0
  have hd : aDots p := fun x y hx hy => ((h.2.2 h0).2.2 x y hx hy).2
  refine zC_of 3 rfl (Nat.le_of_ble_eq_true rfl) ?_
  have loop : ∀ (n k : Nat) (s' : zRg) (σs : zSt) (u v : Option Value), k + n = 192 → rI p num s' → xRG B σ1 p s' num σs → zW G M_X6_flood (fun r w => r = none ∧ ∃ σ' : zSt, w = (zxS B, σ', τ) ∧ xRG B σ1 p (rFl p num t n k s') num σ') 16 [some (.ref (B + 67)), some (.ref a), some (vi t), some (vi x), some (vi y), some (vi k), none, none] [] (zxS B, σs, τ) := by
    intro n
    induction n with
    | zero =>
      intro k s' σs u v hk hI hg
      have hq := hg.2.2.2.1
      have hl : (s'.2.length : Int) ≤ 192 := by have := (rcnt_le (p := p) (num := num) (R := s'.1) (by omega)).2; have := hI.1; have := zz_wh (w := p.1) (h := p.2.1) (by omega) (by omega); rw [Int.mul_comm] at this; omega
      refine zw_iload 18 rfl dX6_flood_16 rfl ?_
      refine zw_aload_n 19 rfl dX6_flood_18 rfl ?_
      refine zw_geti 22 rfl dX6_flood_19 fl_X6_47 (by first | assumption | exact zx_o0 | exact zx_o _ _ _ rfl) ?_
      rw [hq]
      refine zw_icmp_ge 169 25 rfl dX6_flood_22 (by decide) (by omega) (by omega) (fun h_22 => ?_) (fun h_22 => ?_)
      · exact zw_vret (st := []) dX6_flood_169 rfl ⟨rfl, _, rfl, hg⟩
      · refine zw_iload 27 rfl dX6_flood_25 rfl ?_
        refine zw_sipush 30 rfl dX6_flood_27 rfl ?_
        refine zw_icmp_ge 169 33 rfl dX6_flood_30 (by decide) (by omega) (by omega) (fun h_30 => ?_) (fun h_30 => ?_)
        · exact zw_vret (st := []) dX6_flood_169 rfl ⟨rfl, _, rfl, hg⟩
        · omega
    | succ n ih =>
      intro k s' σs u v hk hI hg
      have hq := hg.2.2.2.1
      have hl : (s'.2.length : Int) ≤ 192 := by have := (rcnt_le (p := p) (num := num) (R := s'.1) (by omega)).2; have := hI.1; have := zz_wh (w := p.1) (h := p.2.1) (by omega) (by omega); rw [Int.mul_comm] at this; omega
      by_cases hkl : k < s'.2.length
      · have e : rFl p num t (n + 1) k s' = rFl p num t n (k + 1) (rVis p num t (s'.2.getD k (0, 0)).1 (s'.2.getD k (0, 0)).2 s') := by rw [rFl, if_pos hkl]
        rw [e]
        have hqk := hg.q hI hkl
        generalize (s'.2.getD k (0, 0)).1 = cx at hqk ⊢
        generalize (s'.2.getD k (0, 0)).2 = cy at hqk ⊢
        obtain ⟨⟨q1, q2⟩, q3⟩ := hqk
        have r1 := zStR_r (x := cx) (y := cy) hd
        have r2 := zStR_r (x := cx - 1) (y := cy) hd
        have r3 := zStD_r (x := cx) (y := cy) hd
        have r4 := zStD_r (x := cx) (y := cy - 1) hd
        have L163 : ∀ σs, xRG B σ1 p (rVis p num t cx cy s') num σs → zW G M_X6_flood (fun r w => r = none ∧ ∃ σ' : zSt, w = (zxS B, σ', τ) ∧ xRG B σ1 p (rFl p num t n (k + 1) (rVis p num t cx cy s')) num σ') 163 [some (.ref (B + 67)), some (.ref a), some (vi t), some (vi x), some (vi y), some (vi k), some (vi cx), some (vi cy)] [] (zxS B, σs, τ) := by
          intro σs hg
          refine zw_iinc 166 rfl dX6_flood_163 (Nat.le_of_ble_eq_true rfl) rfl rfl ?_
          refine zw_goto 16 dX6_flood_166 (by decide) ?_
          refine zw_drop 6 ?_
          refine zw_drop 7 ?_
          exact ih (k + 1) _ _ none none (by omega) (hI.vis hnum) hg
        have hI1 := hI.rif (t := t) (st := zStR p cx cy) (x := cx + 1) (y := cy) hnum
        have hI2 := hI1.rif (t := t) (st := zStR p (cx - 1) cy) (x := cx - 1) (y := cy) hnum
        have hI3 := hI2.rif (t := t) (st := zStD p cx cy) (x := cx) (y := cy + 1) hnum
        have L134 : ∀ σs, xRG B σ1 p (rIf p num t (zStD p cx cy) cx (cy + 1) (rIf p num t (zStR p (cx - 1) cy) (cx - 1) cy (rIf p num t (zStR p cx cy) (cx + 1) cy s'))) num σs → zW G M_X6_flood (fun r w => r = none ∧ ∃ σ' : zSt, w = (zxS B, σ', τ) ∧ xRG B σ1 p (rFl p num t n (k + 1) (rVis p num t cx cy s')) num σ') 134 [some (.ref (B + 67)), some (.ref a), some (vi t), some (vi x), some (vi y), some (vi k), some (vi cx), some (vi cy)] [] (zxS B, σs, τ) := by
          intro σs hg
          refine zw_aload_n 135 rfl dX6_flood_134 rfl ?_
          refine zw_iload 137 rfl dX6_flood_135 rfl ?_
          refine zw_iload 139 rfl dX6_flood_137 rfl ?_
          refine zw_iconst 140 rfl dX6_flood_139 ?_
          refine zw_isub 141 rfl dX6_flood_140 ?_
          refine zw_cVi2 144 rfl dX6_flood_141 kX6_flood_61 (Nat.le_of_ble_eq_true rfl) hp.1 (c_stD hp (hg.pic h hn) h0 (by omega) (by omega)) ?_
          refine zw_iconst 145 rfl dX6_flood_144 ?_
          refine zw_iload_n 146 rfl dX6_flood_145 rfl ?_
          refine zw_cSi3 149 rfl dX6_flood_146 kX6_flood_57 (Nat.le_of_ble_eq_true rfl) (c_within (by omega) (by omega) (by omega)) ?_
          refine zw_if_eqB 163 152 rfl dX6_flood_149 (by decide) (fun h_149 => ?_) (fun h_149 => ?_)
          · exact L163 _ (by unfold rVis; first | (rw [rIf, if_pos h_149]; exact hg) | (rw [rIf, if_neg h_149]; exact hg))
          · refine zw_aload_n 153 rfl dX6_flood_152 rfl ?_
            refine zw_aload_n 154 rfl dX6_flood_153 rfl ?_
            refine zw_iload 156 rfl dX6_flood_154 rfl ?_
            refine zw_iload 158 rfl dX6_flood_156 rfl ?_
            refine zw_iconst 159 rfl dX6_flood_158 ?_
            refine zw_isub 160 rfl dX6_flood_159 ?_
            refine zw_cVr3 163 rfl dX6_flood_160 kX6_flood_50 (Nat.le_of_ble_eq_true rfl) (by first | assumption | exact zx_o0 | exact zx_o _ _ _ rfl) (c_enter hp h h0 hn hg hI3 hnum (by omega) (by omega)) ?_
            rintro _ _ ⟨rfl, σ2, rfl, hg⟩
            exact L163 _ (by unfold rVis; first | (rw [rIf, if_pos h_149]; exact hg) | (rw [rIf, if_neg h_149]; exact hg))
        have L107 : ∀ σs, xRG B σ1 p (rIf p num t (zStR p (cx - 1) cy) (cx - 1) cy (rIf p num t (zStR p cx cy) (cx + 1) cy s')) num σs → zW G M_X6_flood (fun r w => r = none ∧ ∃ σ' : zSt, w = (zxS B, σ', τ) ∧ xRG B σ1 p (rFl p num t n (k + 1) (rVis p num t cx cy s')) num σ') 107 [some (.ref (B + 67)), some (.ref a), some (vi t), some (vi x), some (vi y), some (vi k), some (vi cx), some (vi cy)] [] (zxS B, σs, τ) := by
          intro σs hg
          refine zw_aload_n 108 rfl dX6_flood_107 rfl ?_
          refine zw_iload 110 rfl dX6_flood_108 rfl ?_
          refine zw_iload 112 rfl dX6_flood_110 rfl ?_
          refine zw_cVi2 115 rfl dX6_flood_112 kX6_flood_61 (Nat.le_of_ble_eq_true rfl) hp.1 (c_stD hp (hg.pic h hn) h0 (by omega) (by omega)) ?_
          refine zw_iconst 116 rfl dX6_flood_115 ?_
          refine zw_iload_n 117 rfl dX6_flood_116 rfl ?_
          refine zw_cSi3 120 rfl dX6_flood_117 kX6_flood_57 (Nat.le_of_ble_eq_true rfl) (c_within (by omega) (by omega) (by omega)) ?_
          refine zw_if_eqB 134 123 rfl dX6_flood_120 (by decide) (fun h_120 => ?_) (fun h_120 => ?_)
          · exact L134 _ (by first | (rw [rIf, if_pos h_120]; exact hg) | (rw [rIf, if_neg h_120]; exact hg))
          · refine zw_aload_n 124 rfl dX6_flood_123 rfl ?_
            refine zw_aload_n 125 rfl dX6_flood_124 rfl ?_
            refine zw_iload 127 rfl dX6_flood_125 rfl ?_
            refine zw_iload 129 rfl dX6_flood_127 rfl ?_
            refine zw_iconst 130 rfl dX6_flood_129 ?_
            refine zw_iadd 131 rfl dX6_flood_130 ?_
            refine zw_cVr3 134 rfl dX6_flood_131 kX6_flood_50 (Nat.le_of_ble_eq_true rfl) (by first | assumption | exact zx_o0 | exact zx_o _ _ _ rfl) (c_enter hp h h0 hn hg hI2 hnum (by omega) (by omega)) ?_
            rintro _ _ ⟨rfl, σ2, rfl, hg⟩
            exact L134 _ (by first | (rw [rIf, if_pos h_120]; exact hg) | (rw [rIf, if_neg h_120]; exact hg))
        have L78 : ∀ σs, xRG B σ1 p (rIf p num t (zStR p cx cy) (cx + 1) cy s') num σs → zW G M_X6_flood (fun r w => r = none ∧ ∃ σ' : zSt, w = (zxS B, σ', τ) ∧ xRG B σ1 p (rFl p num t n (k + 1) (rVis p num t cx cy s')) num σ') 78 [some (.ref (B + 67)), some (.ref a), some (vi t), some (vi x), some (vi y), some (vi k), some (vi cx), some (vi cy)] [] (zxS B, σs, τ) := by
          intro σs hg
          refine zw_aload_n 79 rfl dX6_flood_78 rfl ?_
          refine zw_iload 81 rfl dX6_flood_79 rfl ?_
          refine zw_iconst 82 rfl dX6_flood_81 ?_
          refine zw_isub 83 rfl dX6_flood_82 ?_
          refine zw_iload 85 rfl dX6_flood_83 rfl ?_
          refine zw_cVi2 88 rfl dX6_flood_85 kX6_flood_54 (Nat.le_of_ble_eq_true rfl) hp.1 (c_stR hp (hg.pic h hn) h0 (by omega) (by omega)) ?_
          refine zw_iconst 89 rfl dX6_flood_88 ?_
          refine zw_iload_n 90 rfl dX6_flood_89 rfl ?_
          refine zw_cSi3 93 rfl dX6_flood_90 kX6_flood_57 (Nat.le_of_ble_eq_true rfl) (c_within (by omega) (by omega) (by omega)) ?_
          refine zw_if_eqB 107 96 rfl dX6_flood_93 (by decide) (fun h_93 => ?_) (fun h_93 => ?_)
          · exact L107 _ (by first | (rw [rIf, if_pos h_93]; exact hg) | (rw [rIf, if_neg h_93]; exact hg))
          · refine zw_aload_n 97 rfl dX6_flood_96 rfl ?_
            refine zw_aload_n 98 rfl dX6_flood_97 rfl ?_
            refine zw_iload 100 rfl dX6_flood_98 rfl ?_
            refine zw_iconst 101 rfl dX6_flood_100 ?_
            refine zw_isub 102 rfl dX6_flood_101 ?_
            refine zw_iload 104 rfl dX6_flood_102 rfl ?_
            refine zw_cVr3 107 rfl dX6_flood_104 kX6_flood_50 (Nat.le_of_ble_eq_true rfl) (by first | assumption | exact zx_o0 | exact zx_o _ _ _ rfl) (c_enter hp h h0 hn hg hI1 hnum (by omega) (by omega)) ?_
            rintro _ _ ⟨rfl, σ2, rfl, hg⟩
            exact L107 _ (by first | (rw [rIf, if_pos h_93]; exact hg) | (rw [rIf, if_neg h_93]; exact hg))
        refine zw_iload 18 rfl dX6_flood_16 rfl ?_
        refine zw_aload_n 19 rfl dX6_flood_18 rfl ?_
        refine zw_geti 22 rfl dX6_flood_19 fl_X6_47 (by first | assumption | exact zx_o0 | exact zx_o _ _ _ rfl) ?_
        rw [hq]
        refine zw_icmp_ge 169 25 rfl dX6_flood_22 (by decide) (by omega) (by omega) (fun h_22 => ?_) (fun h_22 => ?_)
        · omega
        · refine zw_iload 27 rfl dX6_flood_25 rfl ?_
          refine zw_sipush 30 rfl dX6_flood_27 rfl ?_
          refine zw_icmp_ge 169 33 rfl dX6_flood_30 (by decide) (by omega) (by omega) (fun h_30 => ?_) (fun h_30 => ?_)
          · omega
          · refine zw_aload_n 34 rfl dX6_flood_33 rfl ?_
            refine zw_getr 37 rfl dX6_flood_34 fl_X6_15 (by first | assumption | exact zx_o0 | exact zx_o _ _ _ rfl) (by first | assumption | exact zx_f0 _ _ rfl | exact zx_f _ _ _ rfl) ?_
            refine zw_iload 39 rfl dX6_flood_37 rfl ?_
            refine zw_iald 40 rfl dX6_flood_39 (by first | assumption | exact zx_o0 | exact zx_o _ _ _ rfl) (by omega) (by omega) ?_
            rw [Int.toNat_natCast, q1]
            refine zw_istore 42 rfl dX6_flood_40 (Nat.le_of_ble_eq_true rfl) rfl ?_
            refine zw_aload_n 43 rfl dX6_flood_42 rfl ?_
            refine zw_getr 46 rfl dX6_flood_43 fl_X6_18 (by first | assumption | exact zx_o0 | exact zx_o _ _ _ rfl) (by first | assumption | exact zx_f0 _ _ rfl | exact zx_f _ _ _ rfl) ?_
            refine zw_iload 48 rfl dX6_flood_46 rfl ?_
            refine zw_iald 49 rfl dX6_flood_48 (by first | assumption | exact zx_o0 | exact zx_o _ _ _ rfl) (by omega) (by omega) ?_
            rw [Int.toNat_natCast, q2]
            refine zw_istore 51 rfl dX6_flood_49 (Nat.le_of_ble_eq_true rfl) rfl ?_
            refine zw_aload_n 52 rfl dX6_flood_51 rfl ?_
            refine zw_iload 54 rfl dX6_flood_52 rfl ?_
            refine zw_iload 56 rfl dX6_flood_54 rfl ?_
            refine zw_cVi2 59 rfl dX6_flood_56 kX6_flood_54 (Nat.le_of_ble_eq_true rfl) hp.1 (c_stR hp (hg.pic h hn) h0 (by omega) (by omega)) ?_
            refine zw_iconst 60 rfl dX6_flood_59 ?_
            refine zw_iload_n 61 rfl dX6_flood_60 rfl ?_
            refine zw_cSi3 64 rfl dX6_flood_61 kX6_flood_57 (Nat.le_of_ble_eq_true rfl) (c_within (by omega) (by omega) (by omega)) ?_
            refine zw_if_eqB 78 67 rfl dX6_flood_64 (by decide) (fun h_64 => ?_) (fun h_64 => ?_)
            · exact L78 _ (by first | (rw [rIf, if_pos h_64]; exact hg) | (rw [rIf, if_neg h_64]; exact hg))
            · refine zw_aload_n 68 rfl dX6_flood_67 rfl ?_
              refine zw_aload_n 69 rfl dX6_flood_68 rfl ?_
              refine zw_iload 71 rfl dX6_flood_69 rfl ?_
              refine zw_iconst 72 rfl dX6_flood_71 ?_
              refine zw_iadd 73 rfl dX6_flood_72 ?_
              refine zw_iload 75 rfl dX6_flood_73 rfl ?_
              refine zw_cVr3 78 rfl dX6_flood_75 kX6_flood_50 (Nat.le_of_ble_eq_true rfl) (by first | assumption | exact zx_o0 | exact zx_o _ _ _ rfl) (c_enter hp h h0 hn hg hI hnum (by omega) (by omega)) ?_
              rintro _ _ ⟨rfl, σ2, rfl, hg⟩
              exact L78 _ (by first | (rw [rIf, if_pos h_64]; exact hg) | (rw [rIf, if_neg h_64]; exact hg))
      · have e : rFl p num t (n + 1) k s' = s' := by rw [rFl, if_neg hkl]
        rw [e]
        refine zw_iload 18 rfl dX6_flood_16 rfl ?_
        refine zw_aload_n 19 rfl dX6_flood_18 rfl ?_
        refine zw_geti 22 rfl dX6_flood_19 fl_X6_47 (by first | assumption | exact zx_o0 | exact zx_o _ _ _ rfl) ?_
        rw [hq]
        refine zw_icmp_ge 169 25 rfl dX6_flood_22 (by decide) (by omega) (by omega) (fun h_22 => ?_) (fun h_22 => ?_)
        · exact zw_vret (st := []) dX6_flood_169 rfl ⟨rfl, _, rfl, hg⟩
        · omega
  refine zw_aload_n 1 rfl dX6_flood_0 rfl ?_
  refine zw_iconst 2 rfl dX6_flood_1 ?_
  refine zw_puti 5 rfl dX6_flood_2 fp_X6_47 (by first | assumption | exact zx_o0 | exact zx_o _ _ _ rfl) ?_
  refine zw_aload_n 6 rfl dX6_flood_5 rfl ?_
  refine zw_aload_n 7 rfl dX6_flood_6 rfl ?_
  refine zw_iload_n 8 rfl dX6_flood_7 rfl ?_
  refine zw_iload 10 rfl dX6_flood_8 rfl ?_
  refine zw_cVr3 13 rfl dX6_flood_10 kX6_flood_50 (Nat.le_of_ble_eq_true rfl) (by first | assumption | exact zx_o0 | exact zx_o _ _ _ rfl) (c_enter hp h h0 hn hg hI0 hnum hx hy) ?_
  rintro _ _ ⟨rfl, σ2, rfl, hg⟩
  refine zw_iconst 14 rfl dX6_flood_13 ?_
  refine zw_istore 16 rfl dX6_flood_14 (Nat.le_of_ble_eq_true rfl) rfl ?_
  exact loop 192 0 _ _ none none (by omega) hI hg
