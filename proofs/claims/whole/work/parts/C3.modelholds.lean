/-! ===== what was read is held ===== -/
def mHn (C : Nat) (σ : zSt) (t : Nat → Int) (p : Nat) (w : List Int) : Prop := σ (C + 8) p = w.length ∧ w.length ≤ 16 ∧ ∀ k : Nat, k < w.length → σ (C + 7) (16 * p + k) = 97 + w.getD k 0 ∧ 0 ≤ w.getD k 0 ∧ w.getD k 0 ≤ 25
def mHld (C : Nat) (σ σ' : zSt) (r : zRd) : Prop := (∀ b j, ¬ (b = C ∧ (j = 20 ∨ j = 23 ∨ j = 32)) → ¬ (C + 7 ≤ b ∧ b ≤ C + 9) → σ' b j = σ b j) ∧ mrP (σ' (C + 9)) 0 (aTk r) ∧ mrN C σ' r.2.2.1 ∧ σ' C 23 = 0 ∧ σ' C 32 = 0
theorem mHn.c {C p : Nat} {σ σ' : zSt} {t : Nat → Int} {w : List Int} (h : mHn C σ t p w) (h8 : σ' (C + 8) p = σ (C + 8) p) (h7 : ∀ k, k < 16 → σ' (C + 7) (16 * p + k) = σ (C + 7) (16 * p + k)) : mHn C σ' t p w := ⟨h8.trans h.1, h.2.1, fun k hk => by rw [h7 k (by have := h.2.1; omega)]; exact h.2.2 k hk⟩
theorem m_holds {G : zG} {C : Nat} {σ τ : zSt} {t : Nat → Int} {n len : Nat} {r : zRd} (he : σ (C + 1) = t) (hnm : mRnm C t n r.2.2.1 σ) (hpc : ∀ p, p < r.2.2.1.length → mRpc C σ p (r.2.2.2 p)) (hlen : len = r.2.2.1.length) (hl4 : len ≤ 4) (h19 : σ C 19 = len) (hn : n ≤ 700) : zC G M_X11_holds [.ref C] (zmS C, σ, τ) (fun v w => v = none ∧ ∃ σ' : zSt, w = (zmS C, σ', τ) ∧ mHld C σ σ' r) := by
  refine zC_of 2 rfl (Nat.le_of_ble_eq_true rfl) ?_
  have main : ∀ σs : zSt, ((∀ b j, ¬ (b = C ∧ (j = 20 ∨ j = 23 ∨ j = 32)) → ¬ (C + 7 ≤ b ∧ b ≤ C + 9) → σs b j = σ b j) ∧ σs C 20 = len ∧ (∀ q, q < 0 → mrPic (σs (C + 9)) (194 * q) (r.2.2.2 q) ∧ mHn C σs t q (r.2.2.1.getD q [])) ∧ ∀ q, 0 ≤ q → q < 6 → σs (C + 9) (194 * q) = 0) → zW G M_X11_holds (fun v w => v = none ∧ ∃ σ' : zSt, w = (zmS C, σ', τ) ∧ mHld C σ σ' r) 35 [some (.ref C), some (vi (0 : Nat)), none] [] (zmS C, σs, τ) := by
    refine zloop (n := len) (L := fun p => ∀ σs : zSt, ((∀ b j, ¬ (b = C ∧ (j = 20 ∨ j = 23 ∨ j = 32)) → ¬ (C + 7 ≤ b ∧ b ≤ C + 9) → σs b j = σ b j) ∧ σs C 20 = len ∧ (∀ q, q < p → mrPic (σs (C + 9)) (194 * q) (r.2.2.2 q) ∧ mHn C σs t q (r.2.2.1.getD q [])) ∧ ∀ q, p ≤ q → q < 6 → σs (C + 9) (194 * q) = 0) → zW G M_X11_holds (fun v w => v = none ∧ ∃ σ' : zSt, w = (zmS C, σ', τ) ∧ mHld C σ σ' r) 35 [some (.ref C), some (vi p), none] [] (zmS C, σs, τ)) ?_ ?_
    · intro σs hI
      obtain ⟨i1, i2, i3, i4⟩ := hI
      have e19 : σs C 19 = len := by rw [i1 _ _ (by omega) (by omega)]; exact h19
      refine zw_iload_n 36 rfl dX11_holds_35 rfl ?_
      refine zw_aload_n 37 rfl dX11_holds_36 rfl ?_
      refine zw_geti 40 rfl dX11_holds_37 fl_X11_130 (by first | assumption | exact zm_o0 | exact zm_o _ _ _ rfl) ?_
      rw [e19]
      refine zw_icmp_ge 178 43 rfl dX11_holds_40 (by decide) (by omega) (by omega) (fun h_40 => ?_) (fun h_40 => ?_)
      · refine zw_aload_n 179 rfl dX11_holds_178 rfl ?_
        refine zw_iconst 180 rfl dX11_holds_179 ?_
        refine zw_puti 183 rfl dX11_holds_180 fp_X11_163 (by first | assumption | exact zm_o0 | exact zm_o _ _ _ rfl) ?_
        refine zw_aload_n 184 rfl dX11_holds_183 rfl ?_
        refine zw_iconst 185 rfl dX11_holds_184 ?_
        refine zw_putz 188 rfl dX11_holds_185 fp_X11_166 (by first | assumption | exact zm_o0 | exact zm_o _ _ _ rfl) (by omega) ?_
        refine zw_vret (st := []) dX11_holds_188 rfl ⟨rfl, _, rfl, fun b j b1 b2 => ?_, fun q hq => ?_, ⟨?_, by omega, fun q hq => ?_⟩, ?_, ?_⟩
        · rw [zu_ne _ _ (by omega), zu_ne _ _ (by omega)]; exact i1 b j b1 b2
        · rw [zu_row _ _ (by omega), zu_row _ _ (by omega), Nat.zero_add]
          unfold aTk
          by_cases e : q < r.2.2.1.length
          · rw [if_pos e]; exact (i3 q (by omega)).1
          · rw [if_neg e]; exact ⟨i4 q (by omega) hq, by show (0 : Int) ≤ 0 ∧ (0 : Int) ≤ 16; omega, fun u => absurd u (by show ¬ (0 : Int) < 0; omega)⟩
        · rw [zu_k _ _ (by omega), zu_k _ _ (by omega), i2, hlen]
        · rw [zu_row _ _ (by omega), zu_row _ _ (by omega), zu_row _ _ (by omega), zu_row _ _ (by omega)]; exact (i3 q (by omega)).2
        · rw [zu_k _ _ (by omega), zu_eq]
        · rw [zu_eq]
      · exfalso; omega
    · intro p hp ih σs hI
      obtain ⟨i1, i2, i3, i4⟩ := hI
      have e19 : σs C 19 = len := by rw [i1 _ _ (by omega) (by omega)]; exact h19
      have hq := hpc p (by omega)
      obtain ⟨a, l, u1, u2, u3, u4, u5, u6⟩ := hnm p (by omega)
      have hwl : (r.2.2.1.getD p []).length = l := by rw [u5]; unfold zWo; simp
      -- the letters
      have letters : ∀ σ2 : zSt, mrPic (σ2 (C + 9)) (194 * p) (r.2.2.2 p) → (∀ b j, ¬ (b = C + 9 ∧ 194 * p ≤ j ∧ j < 194 * p + 194) → ¬ (b = C + 8 ∧ j = p) → ¬ (b = C + 7 ∧ 16 * p ≤ j ∧ j < 16 * p + 16) → σ2 b j = σs b j) → σ2 (C + 8) p = l → (∀ k, k < 0 → σ2 (C + 7) (16 * p + k) = t (a + k)) → zW G M_X11_holds (fun v w => v = none ∧ ∃ σ' : zSt, w = (zmS C, σ', τ) ∧ mHld C σ σ' r) 132 [some (.ref C), some (vi p), some (vi (0 : Nat))] [] (zmS C, σ2, τ) := by
        refine zloop (n := l) (L := fun k => ∀ σ2 : zSt, mrPic (σ2 (C + 9)) (194 * p) (r.2.2.2 p) → (∀ b j, ¬ (b = C + 9 ∧ 194 * p ≤ j ∧ j < 194 * p + 194) → ¬ (b = C + 8 ∧ j = p) → ¬ (b = C + 7 ∧ 16 * p ≤ j ∧ j < 16 * p + 16) → σ2 b j = σs b j) → σ2 (C + 8) p = l → (∀ i, i < k → σ2 (C + 7) (16 * p + i) = t (a + i)) → zW G M_X11_holds (fun v w => v = none ∧ ∃ σ' : zSt, w = (zmS C, σ', τ) ∧ mHld C σ σ' r) 132 [some (.ref C), some (vi p), some (vi k)] [] (zmS C, σ2, τ)) ?_ ?_
        · intro σ2 g1 g2 g3 g4
          have e3 : σ2 (C + 3) p = l := by rw [g2 _ _ (by omega) (by omega) (by omega), i1 _ _ (by omega) (by omega)]; exact u2
          refine zw_iload_n 133 rfl dX11_holds_132 rfl ?_
          refine zw_aload_n 134 rfl dX11_holds_133 rfl ?_
          refine zw_getr 137 rfl dX11_holds_134 fl_X11_20 (by first | assumption | exact zm_o0 | exact zm_o _ _ _ rfl) (by first | assumption | exact zm_f _ _ rfl) ?_
          refine zw_iload_n 138 rfl dX11_holds_137 rfl ?_
          refine zw_iald 139 rfl dX11_holds_138 (by first | assumption | exact zm_o0 | exact zm_o _ _ _ rfl) (by omega) (by omega) ?_
          rw [Int.toNat_natCast, e3]
          refine zw_icmp_ge 172 142 rfl dX11_holds_139 (by decide) (by omega) (by omega) (fun h_139 => ?_) (fun h_139 => ?_)
          · refine zw_iinc 175 rfl dX11_holds_172 (Nat.le_of_ble_eq_true rfl) rfl rfl ?_
            refine zw_goto 35 dX11_holds_175 (by decide) ?_
            refine zw_drop 2 ?_
            refine ih σ2 ⟨fun b j b1 b2 => by rw [g2 b j (by omega) (by omega) (by omega)]; exact i1 b j b1 b2, by rw [g2 _ _ (by omega) (by omega) (by omega)]; exact i2, fun q hq2 => ?_, fun q q1 q2 => by rw [g2 _ _ (by omega) (by omega) (by omega)]; exact i4 q (by omega) q2⟩
            by_cases e : q = p
            · subst e
              refine ⟨g1, by rw [hwl]; exact g3, by rw [hwl]; exact u4.2, fun k hk => ?_⟩
              rw [hwl] at hk
              have e5 : (r.2.2.1.getD q []).getD k 0 = t (a + k) - 97 := by rw [u5]; unfold zWo; simp [List.getD, hk]
              have := u6 k hk
              rw [e5, g4 k hk]
              omega
            · have := i3 q (by omega)
              exact ⟨this.1.mv (fun j hj => g2 _ _ (by omega) (by omega) (by omega)), this.2.c (g2 _ _ (by omega) (by omega) (by omega)) (fun k hk => g2 _ _ (by omega) (by omega) (by omega))⟩
          · exfalso; omega
        · intro k hk ih2 σ2 g1 g2 g3 g4
          have e3 : σ2 (C + 3) p = l := by rw [g2 _ _ (by omega) (by omega) (by omega), i1 _ _ (by omega) (by omega)]; exact u2
          have e2 : σ2 (C + 2) p = a := by rw [g2 _ _ (by omega) (by omega) (by omega), i1 _ _ (by omega) (by omega)]; exact u1
          have et : σ2 (C + 1) = t := by rw [← he]; exact funext fun j => by rw [g2 _ _ (by omega) (by omega) (by omega)]; exact i1 _ _ (by omega) (by omega)
          refine zw_iload_n 133 rfl dX11_holds_132 rfl ?_
          refine zw_aload_n 134 rfl dX11_holds_133 rfl ?_
          refine zw_getr 137 rfl dX11_holds_134 fl_X11_20 (by first | assumption | exact zm_o0 | exact zm_o _ _ _ rfl) (by first | assumption | exact zm_f _ _ rfl) ?_
          refine zw_iload_n 138 rfl dX11_holds_137 rfl ?_
          refine zw_iald 139 rfl dX11_holds_138 (by first | assumption | exact zm_o0 | exact zm_o _ _ _ rfl) (by omega) (by omega) ?_
          rw [Int.toNat_natCast, e3]
          refine zw_icmp_ge 172 142 rfl dX11_holds_139 (by decide) (by omega) (by omega) (fun h_139 => ?_) (fun h_139 => ?_)
          · exfalso; omega
          · refine zw_aload_n 143 rfl dX11_holds_142 rfl ?_
            refine zw_getr 146 rfl dX11_holds_143 fl_X11_32 (by first | assumption | exact zm_o0 | exact zm_o _ _ _ rfl) (by first | assumption | exact zm_f _ _ rfl) ?_
            refine zw_bipush 148 rfl dX11_holds_146 rfl ?_
            refine zw_iload_n 149 rfl dX11_holds_148 rfl ?_
            refine zw_imul 150 rfl dX11_holds_149 ?_
            refine zw_iload_n 151 rfl dX11_holds_150 rfl ?_
            refine zw_iadd 152 rfl dX11_holds_151 ?_
            refine zw_aload_n 153 rfl dX11_holds_152 rfl ?_
            refine zw_getr 156 rfl dX11_holds_153 fl_X11_13 (by first | assumption | exact zm_o0 | exact zm_o _ _ _ rfl) (by first | assumption | exact zm_f _ _ rfl) ?_
            refine zw_aload_n 157 rfl dX11_holds_156 rfl ?_
            refine zw_getr 160 rfl dX11_holds_157 fl_X11_17 (by first | assumption | exact zm_o0 | exact zm_o _ _ _ rfl) (by first | assumption | exact zm_f _ _ rfl) ?_
            refine zw_iload_n 161 rfl dX11_holds_160 rfl ?_
            refine zw_iald 162 rfl dX11_holds_161 (by first | assumption | exact zm_o0 | exact zm_o _ _ _ rfl) (by omega) (by omega) ?_
            rw [Int.toNat_natCast, e2]
            refine zw_iload_n 163 rfl dX11_holds_162 rfl ?_
            refine zw_iadd 164 rfl dX11_holds_163 ?_
            refine zw_iald 165 rfl dX11_holds_164 (by first | assumption | exact zm_o0 | exact zm_o _ _ _ rfl) (by omega) (by omega) ?_
            rw [show ((a : Int) + (k : Int)).toNat = a + k by omega, et]
            refine zw_iast 166 rfl dX11_holds_165 (by first | assumption | exact zm_o0 | exact zm_o _ _ _ rfl) (by omega) (by omega) ?_
            refine zw_iinc 169 rfl dX11_holds_166 (Nat.le_of_ble_eq_true rfl) rfl rfl ?_
            refine zw_goto 132 dX11_holds_169 (by decide) ?_
            rw [show (16 * (p : Int) + (k : Int)).toNat = 16 * p + k by omega]
            refine ih2 _ (by rw [zu_row _ _ (by omega)]; exact g1) (fun b j b1 b2 b3 => by rw [zu_ne _ _ (by omega)]; exact g2 b j b1 b2 b3) (by rw [zu_a _ _ (by omega)]; exact g3) (fun i hi => ?_)
            by_cases e : i = k
            · subst e; rw [zu_eq]
            · rw [zu_k _ _ (by omega)]; exact g4 i (by omega)
      -- the dots
      have dots : ∀ σ2 : zSt, (∀ b j, ¬ (b = C + 9 ∧ 194 * p ≤ j ∧ j < 194 * p + 194) → σ2 b j = σs b j) → σ2 (C + 9) (194 * p) = (r.2.2.2 p).1 → σ2 (C + 9) (194 * p + 1) = (r.2.2.2 p).2.1 → (∀ k, k < 0 → σ2 (C + 9) (194 * p + 2 + k) = σ (C + 6) (192 * p + k)) → zW G M_X11_holds (fun v w => v = none ∧ ∃ σ' : zSt, w = (zmS C, σ', τ) ∧ mHld C σ σ' r) 79 [some (.ref C), some (vi p), some (vi (0 : Nat))] [] (zmS C, σ2, τ) := by
        refine zloop (n := 192) (L := fun k => ∀ σ2 : zSt, (∀ b j, ¬ (b = C + 9 ∧ 194 * p ≤ j ∧ j < 194 * p + 194) → σ2 b j = σs b j) → σ2 (C + 9) (194 * p) = (r.2.2.2 p).1 → σ2 (C + 9) (194 * p + 1) = (r.2.2.2 p).2.1 → (∀ i, i < k → σ2 (C + 9) (194 * p + 2 + i) = σ (C + 6) (192 * p + i)) → zW G M_X11_holds (fun v w => v = none ∧ ∃ σ' : zSt, w = (zmS C, σ', τ) ∧ mHld C σ σ' r) 79 [some (.ref C), some (vi p), some (vi k)] [] (zmS C, σ2, τ)) ?_ ?_
        · intro σ2 g1 g2 g3 g4
          have e3 : σ2 (C + 3) p = l := by rw [g1 _ _ (by omega), i1 _ _ (by omega) (by omega)]; exact u2
          have hmp : mrPic (σ2 (C + 9)) (194 * p) (r.2.2.2 p) := ⟨g2, by have := hq.2.1; omega, fun _ => ⟨g3, hq.2.2.2.1, fun x y hx hy => by
            have b1 := hq.2.1
            have b2 := hq.2.2.2.1
            rw [g4 _ (by omega)]; exact hq.2.2.2.2 x y hx hy⟩⟩
          refine zw_iload_n 80 rfl dX11_holds_79 rfl ?_
          refine zw_sipush 83 rfl dX11_holds_80 rfl ?_
          refine zw_icmp_ge 118 86 rfl dX11_holds_83 (by decide) (by omega) (by omega) (fun h_83 => ?_) (fun h_83 => ?_)
          · refine zw_aload_n 119 rfl dX11_holds_118 rfl ?_
            refine zw_getr 122 rfl dX11_holds_119 fl_X11_35 (by first | assumption | exact zm_o0 | exact zm_o _ _ _ rfl) (by first | assumption | exact zm_f _ _ rfl) ?_
            refine zw_iload_n 123 rfl dX11_holds_122 rfl ?_
            refine zw_aload_n 124 rfl dX11_holds_123 rfl ?_
            refine zw_getr 127 rfl dX11_holds_124 fl_X11_20 (by first | assumption | exact zm_o0 | exact zm_o _ _ _ rfl) (by first | assumption | exact zm_f _ _ rfl) ?_
            refine zw_iload_n 128 rfl dX11_holds_127 rfl ?_
            refine zw_iald 129 rfl dX11_holds_128 (by first | assumption | exact zm_o0 | exact zm_o _ _ _ rfl) (by omega) (by omega) ?_
            rw [Int.toNat_natCast, e3]
            refine zw_iast 130 rfl dX11_holds_129 (by first | assumption | exact zm_o0 | exact zm_o _ _ _ rfl) (by omega) (by omega) ?_
            rw [Int.toNat_natCast]
            refine zw_iconst 131 rfl dX11_holds_130 ?_
            refine zw_istore_n 132 rfl dX11_holds_131 (Nat.le_of_ble_eq_true rfl) rfl ?_
            exact letters _ (by rw [zu_row _ _ (by omega)]; exact hmp) (fun b j b1 b2 b3 => by rw [zu_ne _ _ b2]; exact g1 b j b1) (zu_eq _ _ _ _) (fun k hk => absurd hk (by omega))
          · exfalso; omega
        · intro k hk ih2 σ2 g1 g2 g3 g4
          have e6 : σ2 (C + 6) = σ (C + 6) := funext fun j => by rw [g1 _ _ (by omega)]; exact i1 _ _ (by omega) (by omega)
          refine zw_iload_n 80 rfl dX11_holds_79 rfl ?_
          refine zw_sipush 83 rfl dX11_holds_80 rfl ?_
          refine zw_icmp_ge 118 86 rfl dX11_holds_83 (by decide) (by omega) (by omega) (fun h_83 => ?_) (fun h_83 => ?_)
          · exfalso; omega
          · refine zw_aload_n 87 rfl dX11_holds_86 rfl ?_
            refine zw_getr 90 rfl dX11_holds_87 fl_X11_38 (by first | assumption | exact zm_o0 | exact zm_o _ _ _ rfl) (by first | assumption | exact zm_f _ _ rfl) ?_
            refine zw_sipush 93 rfl dX11_holds_90 rfl ?_
            refine zw_iload_n 94 rfl dX11_holds_93 rfl ?_
            refine zw_imul 95 rfl dX11_holds_94 ?_
            refine zw_iconst 96 rfl dX11_holds_95 ?_
            refine zw_iadd 97 rfl dX11_holds_96 ?_
            refine zw_iload_n 98 rfl dX11_holds_97 rfl ?_
            refine zw_iadd 99 rfl dX11_holds_98 ?_
            refine zw_aload_n 100 rfl dX11_holds_99 rfl ?_
            refine zw_getr 103 rfl dX11_holds_100 fl_X11_29 (by first | assumption | exact zm_o0 | exact zm_o _ _ _ rfl) (by first | assumption | exact zm_f _ _ rfl) ?_
            refine zw_sipush 106 rfl dX11_holds_103 rfl ?_
            refine zw_iload_n 107 rfl dX11_holds_106 rfl ?_
            refine zw_imul 108 rfl dX11_holds_107 ?_
            refine zw_iload_n 109 rfl dX11_holds_108 rfl ?_
            refine zw_iadd 110 rfl dX11_holds_109 ?_
            refine zw_iald 111 rfl dX11_holds_110 (by first | assumption | exact zm_o0 | exact zm_o _ _ _ rfl) (by omega) (by omega) ?_
            rw [show (192 * (p : Int) + (k : Int)).toNat = 192 * p + k by omega, e6]
            refine zw_iast 112 rfl dX11_holds_111 (by first | assumption | exact zm_o0 | exact zm_o _ _ _ rfl) (by omega) (by omega) ?_
            refine zw_iinc 115 rfl dX11_holds_112 (Nat.le_of_ble_eq_true rfl) rfl rfl ?_
            refine zw_goto 79 dX11_holds_115 (by decide) ?_
            rw [show (194 * (p : Int) + 2 + (k : Int)).toNat = 194 * p + 2 + k by omega]
            refine ih2 _ (fun b j hb => by rw [zu_ne _ _ (by omega)]; exact g1 b j hb) (by rw [zu_k _ _ (by omega)]; exact g2) (by rw [zu_k _ _ (by omega)]; exact g3) (fun i hi => ?_)
            by_cases e : i = k
            · subst e; rw [zu_eq]
            · rw [zu_k _ _ (by omega)]; exact g4 i (by omega)
      have e4 : σs (C + 4) p = (r.2.2.2 p).1 := by rw [i1 _ _ (by omega) (by omega)]; exact hq.1
      have e5 : σs (C + 5) p = (r.2.2.2 p).2.1 := by rw [i1 _ _ (by omega) (by omega)]; exact hq.2.2.1
      refine zw_iload_n 36 rfl dX11_holds_35 rfl ?_
      refine zw_aload_n 37 rfl dX11_holds_36 rfl ?_
      refine zw_geti 40 rfl dX11_holds_37 fl_X11_130 (by first | assumption | exact zm_o0 | exact zm_o _ _ _ rfl) ?_
      rw [e19]
      refine zw_icmp_ge 178 43 rfl dX11_holds_40 (by decide) (by omega) (by omega) (fun h_40 => ?_) (fun h_40 => ?_)
      · exfalso; omega
      · refine zw_aload_n 44 rfl dX11_holds_43 rfl ?_
        refine zw_getr 47 rfl dX11_holds_44 fl_X11_38 (by first | assumption | exact zm_o0 | exact zm_o _ _ _ rfl) (by first | assumption | exact zm_f _ _ rfl) ?_
        refine zw_sipush 50 rfl dX11_holds_47 rfl ?_
        refine zw_iload_n 51 rfl dX11_holds_50 rfl ?_
        refine zw_imul 52 rfl dX11_holds_51 ?_
        refine zw_aload_n 53 rfl dX11_holds_52 rfl ?_
        refine zw_getr 56 rfl dX11_holds_53 fl_X11_23 (by first | assumption | exact zm_o0 | exact zm_o _ _ _ rfl) (by first | assumption | exact zm_f _ _ rfl) ?_
        refine zw_iload_n 57 rfl dX11_holds_56 rfl ?_
        refine zw_iald 58 rfl dX11_holds_57 (by first | assumption | exact zm_o0 | exact zm_o _ _ _ rfl) (by omega) (by omega) ?_
        rw [Int.toNat_natCast, e4]
        refine zw_iast 59 rfl dX11_holds_58 (by first | assumption | exact zm_o0 | exact zm_o _ _ _ rfl) (by omega) (by omega) ?_
        rw [show (194 * (p : Int)).toNat = 194 * p by omega]
        refine zw_aload_n 60 rfl dX11_holds_59 rfl ?_
        refine zw_getr 63 rfl dX11_holds_60 fl_X11_38 (by first | assumption | exact zm_o0 | exact zm_o _ _ _ rfl) (by first | assumption | exact zm_f _ _ rfl) ?_
        refine zw_sipush 66 rfl dX11_holds_63 rfl ?_
        refine zw_iload_n 67 rfl dX11_holds_66 rfl ?_
        refine zw_imul 68 rfl dX11_holds_67 ?_
        refine zw_iconst 69 rfl dX11_holds_68 ?_
        refine zw_iadd 70 rfl dX11_holds_69 ?_
        refine zw_aload_n 71 rfl dX11_holds_70 rfl ?_
        refine zw_getr 74 rfl dX11_holds_71 fl_X11_26 (by first | assumption | exact zm_o0 | exact zm_o _ _ _ rfl) (by first | assumption | exact zm_f _ _ rfl) ?_
        refine zw_iload_n 75 rfl dX11_holds_74 rfl ?_
        refine zw_iald 76 rfl dX11_holds_75 (by first | assumption | exact zm_o0 | exact zm_o _ _ _ rfl) (by omega) (by omega) ?_
        rw [Int.toNat_natCast, zu_a _ _ (by omega), e5]
        refine zw_iast 77 rfl dX11_holds_76 (by first | assumption | exact zm_o0 | exact zm_o _ _ _ rfl) (by omega) (by omega) ?_
        rw [show (194 * (p : Int) + 1).toNat = 194 * p + 1 by omega]
        refine zw_iconst 78 rfl dX11_holds_77 ?_
        refine zw_istore_n 79 rfl dX11_holds_78 (Nat.le_of_ble_eq_true rfl) rfl ?_
        exact dots _ (fun b j hb => by rw [zu_ne _ _ (by omega), zu_ne _ _ (by omega)]) (by rw [zu_k _ _ (by omega), zu_eq]) (zu_eq _ _ _ _) (fun k hk => absurd hk (by omega))
  have clear : ∀ σs : zSt, (∀ b j, ¬ (b = C ∧ j = 20) → b ≠ C + 9 → σs b j = σ b j) → σs C 20 = len → (∀ q, q < 0 → σs (C + 9) (194 * q) = 0) → zW G M_X11_holds (fun v w => v = none ∧ ∃ σ' : zSt, w = (zmS C, σ', τ) ∧ mHld C σ σ' r) 10 [some (.ref C), some (vi (0 : Nat)), none] [] (zmS C, σs, τ) := by
    refine zloop (n := 6) (L := fun p => ∀ σs : zSt, (∀ b j, ¬ (b = C ∧ j = 20) → b ≠ C + 9 → σs b j = σ b j) → σs C 20 = len → (∀ q, q < p → σs (C + 9) (194 * q) = 0) → zW G M_X11_holds (fun v w => v = none ∧ ∃ σ' : zSt, w = (zmS C, σ', τ) ∧ mHld C σ σ' r) 10 [some (.ref C), some (vi p), none] [] (zmS C, σs, τ)) ?_ ?_
    · intro σs g1 g2 g3
      refine zw_iload_n 11 rfl dX11_holds_10 rfl ?_
      refine zw_bipush 13 rfl dX11_holds_11 rfl ?_
      refine zw_icmp_ge 33 16 rfl dX11_holds_13 (by decide) (by omega) (by omega) (fun h_13 => ?_) (fun h_13 => ?_)
      · refine zw_iconst 34 rfl dX11_holds_33 ?_
        refine zw_istore_n 35 rfl dX11_holds_34 (Nat.le_of_ble_eq_true rfl) rfl ?_
        exact main σs ⟨fun b j b1 b2 => g1 b j (by omega) (by omega), g2, fun q hq => absurd hq (by omega), fun q _ hq => g3 q hq⟩
      · exfalso; omega
    · intro p hp ih σs g1 g2 g3
      refine zw_iload_n 11 rfl dX11_holds_10 rfl ?_
      refine zw_bipush 13 rfl dX11_holds_11 rfl ?_
      refine zw_icmp_ge 33 16 rfl dX11_holds_13 (by decide) (by omega) (by omega) (fun h_13 => ?_) (fun h_13 => ?_)
      · exfalso; omega
      · refine zw_aload_n 17 rfl dX11_holds_16 rfl ?_
        refine zw_getr 20 rfl dX11_holds_17 fl_X11_38 (by first | assumption | exact zm_o0 | exact zm_o _ _ _ rfl) (by first | assumption | exact zm_f _ _ rfl) ?_
        refine zw_sipush 23 rfl dX11_holds_20 rfl ?_
        refine zw_iload_n 24 rfl dX11_holds_23 rfl ?_
        refine zw_imul 25 rfl dX11_holds_24 ?_
        refine zw_iconst 26 rfl dX11_holds_25 ?_
        refine zw_iast 27 rfl dX11_holds_26 (by first | assumption | exact zm_o0 | exact zm_o _ _ _ rfl) (by omega) (by omega) ?_
        refine zw_iinc 30 rfl dX11_holds_27 (Nat.le_of_ble_eq_true rfl) rfl rfl ?_
        refine zw_goto 10 dX11_holds_30 (by decide) ?_
        rw [show (194 * (p : Int)).toNat = 194 * p by omega]
        refine ih _ (fun b j b1 b2 => by rw [zu_a _ _ b2]; exact g1 b j b1 b2) (by rw [zu_a _ _ (by omega)]; exact g2) (fun q hq => ?_)
        by_cases e : q = p
        · subst e; rw [zu_eq]
        · rw [zu_k _ _ (by omega)]; exact g3 q (by omega)
  refine zw_aload_n 1 rfl dX11_holds_0 rfl ?_
  refine zw_aload_n 2 rfl dX11_holds_1 rfl ?_
  refine zw_geti 5 rfl dX11_holds_2 fl_X11_130 (by first | assumption | exact zm_o0 | exact zm_o _ _ _ rfl) ?_
  rw [h19]
  refine zw_puti 8 rfl dX11_holds_5 fp_X11_160 (by first | assumption | exact zm_o0 | exact zm_o _ _ _ rfl) ?_
  refine zw_iconst 9 rfl dX11_holds_8 ?_
  refine zw_istore_n 10 rfl dX11_holds_9 (Nat.le_of_ble_eq_true rfl) rfl ?_
  exact clear _ (fun b j b1 b2 => zu_ne _ _ b1) (zu_eq _ _ _ _) (fun q hq => absurd hq (by omega))
