/-! ===== turn, noise ===== -/
theorem mNw.picG {C j : Nat} {σr σs : zSt} {W H w h : Int} {V F : Int → Int → Int} {pos : Int → Int → Nat} (hl : mNw C σr W w h V pos j 0 σs) (hj : H ≤ j) (hw : 1 ≤ w ∧ w ≤ 16) (hh : 1 ≤ h ∧ h ≤ 12) (hF : ∀ a b : Int, 0 ≤ a ∧ a < w → 0 ≤ b ∧ b < h → ∃ x y : Int, (0 ≤ x ∧ x < W) ∧ (0 ≤ y ∧ y < H) ∧ pos x y = (16 * b + a).toNat ∧ V x y = F a b) (hV : ∀ x y : Int, 0 ≤ x ∧ x < w → 0 ≤ y ∧ y < h → 0 ≤ F x y ∧ F x y ≤ 255) : mrPic (σs (C + 9)) 1164 (w, h, F) := by
  obtain ⟨h1, h2, h3, h4⟩ := hl
  refine ⟨h2, by show 0 ≤ w ∧ w ≤ 16; omega, fun _ => ⟨h3, hh, fun a b ha hb => ⟨?_, hV a b ha hb⟩⟩⟩
  obtain ⟨x, y, hx, hy, e1, e2⟩ := hF a b ha hb
  have := h4 x y hx (by omega)
  rw [e1, e2] at this
  exact this
def mTp (w h what x y : Int) : Nat := if what = 3 then (16 * x + y).toNat else (16 * (if what = 2 then h - 1 - y else y) + (if what = 1 then w - 1 - x else x)).toNat
theorem mTp_i {w h what : Int} (hw : w ≤ 16) (hh : h ≤ 12) : ∀ x y x' y' : Int, 0 ≤ x ∧ x < w → 0 ≤ y ∧ y < h → 0 ≤ x' ∧ x' < w → 0 ≤ y' ∧ y' < h → mTp w h what x y = mTp w h what x' y' → x = x' ∧ y = y' := by
  intro x y x' y' h1 h2 h3 h4
  unfold mTp
  (repeat' split) <;> omega
def mTv (q : zPc) (what x y : Int) : Int := if what = 4 then 255 - q.2.2 x y else q.2.2 x y
theorem aTurn_d {q : zPc} {what : Int} (hq : (1 ≤ q.1 ∧ q.1 ≤ 16) ∧ 1 ≤ q.2.1 ∧ q.2.1 ≤ 12) (h12 : what = 3 → q.1 ≤ 12) : (1 ≤ (aTurn q what).1 ∧ (aTurn q what).1 ≤ 16) ∧ 1 ≤ (aTurn q what).2.1 ∧ (aTurn q what).2.1 ≤ 12 := by
  unfold aTurn
  by_cases h3 : what = 3
  · rw [if_pos h3]; have := h12 h3; simp only; omega
  · rw [if_neg h3]; simp only; omega
theorem aTurn_g {q : zPc} {what a b : Int} (ha : 0 ≤ a ∧ a < (aTurn q what).1) (hb : 0 ≤ b ∧ b < (aTurn q what).2.1) : ∃ x y : Int, (0 ≤ x ∧ x < q.1) ∧ (0 ≤ y ∧ y < q.2.1) ∧ mTp q.1 q.2.1 what x y = (16 * b + a).toNat ∧ mTv q what x y = (aTurn q what).2.2 a b := by
  unfold aTurn at *
  unfold mTp mTv
  by_cases h3 : what = 3
  · rw [if_pos h3] at ha hb ⊢
    exact ⟨b, a, hb, ha, by rw [if_pos h3], by rw [if_neg (by omega)]⟩
  · rw [if_neg h3] at ha hb ⊢
    simp only at ha hb ⊢
    by_cases h1 : what = 1
    · refine ⟨q.1 - 1 - a, b, by omega, hb, ?_, ?_⟩
      · rw [if_neg h3, if_neg (by omega), if_pos h1]; omega
      · rw [if_neg (by omega), if_pos h1]
    · by_cases h2 : what = 2
      · refine ⟨a, q.2.1 - 1 - b, ha, by omega, ?_, ?_⟩
        · rw [if_neg h3, if_pos h2, if_neg h1]; omega
        · rw [if_neg (by omega), if_neg h1, if_pos h2]
      · refine ⟨a, b, ha, hb, ?_, ?_⟩
        · rw [if_neg h3, if_neg h2, if_neg h1]
        · rw [if_neg h1, if_neg h2]
theorem Y_turn {G : zG} {C : Nat} {σ τ : zSt} {A : zA} {to of what : Int} (h : zmR C σ τ A) (hto : -2147483648 ≤ to ∧ to ≤ 2147483647) (hof : -2147483648 ≤ of ∧ of ≤ 2147483647) (hwhat : -2147483648 ≤ what ∧ what ≤ 2147483647) : zC G M_X11_turn [.ref C, vi to, vi of, vi what] (zmS C, σ, τ) (mQ C (sp_turn A to of what)) := by
  have hP := (mThrown (v := 0)).P h.p
  refine zC_of 3 rfl (Nat.le_of_ble_eq_true rfl) ?_
  by_cases hc : aPl to ∧ aTold A of ∧ (0 ≤ what ∧ what ≤ 4) ∧ (what = 3 → (A.1 of.toNat).1 ≤ 12)
  · obtain ⟨hc1, hc2, hc3, h12⟩ := hc
    have hq := h.p.pc hc2
    have hq1 := hP.pc hc2
    have hw := hq.wh
    have hD := aTurn_d hw h12
    have why : (if aPl to then if aTold A of then if 0 ≤ what ∧ what ≤ 4 then if what = 3 then if 12 < (A.1 of.toNat).1 then 3 else 0 else 0 else 1 else 1 else 1) = (0 : Int) := by
      rw [if_pos hc1, if_pos hc2, if_pos hc3]
      by_cases h3 : what = 3
      · have := h12 h3; rw [if_pos h3, if_neg (by omega)]
      · rw [if_neg h3]
    have key : ∀ σs : zSt, mNw C σ ((A.1 of.toNat).1) ((aTurn (A.1 of.toNat) what).1) ((aTurn (A.1 of.toNat) what).2.1) (mTv (A.1 of.toNat) what) (mTp (A.1 of.toNat).1 (A.1 of.toNat).2.1 what) 0 0 σs → zW G M_X11_turn (mQ C (sp_turn A to of what)) 101 [some (.ref C), some (vi to), some (vi of), some (vi what), some (vi (0 : Nat)), none, none] [] (zmS C, σs, τ) := by
      refine zrows (w := ((A.1 of.toNat).1).toNat) (h := ((A.1 of.toNat).2.1).toNat) (O := fun j => ∀ σs : zSt, mNw C σ ((A.1 of.toNat).1) ((aTurn (A.1 of.toNat) what).1) ((aTurn (A.1 of.toNat) what).2.1) (mTv (A.1 of.toNat) what) (mTp (A.1 of.toNat).1 (A.1 of.toNat).2.1 what) j 0 σs → zW G M_X11_turn (mQ C (sp_turn A to of what)) 101 [some (.ref C), some (vi to), some (vi of), some (vi what), some (vi j), none, none] [] (zmS C, σs, τ)) (N := fun j i => ∀ σs : zSt, mNw C σ ((A.1 of.toNat).1) ((aTurn (A.1 of.toNat) what).1) ((aTurn (A.1 of.toNat) what).2.1) (mTv (A.1 of.toNat) what) (mTp (A.1 of.toNat).1 (A.1 of.toNat).2.1 what) j i σs → zW G M_X11_turn (mQ C (sp_turn A to of what)) 114 [some (.ref C), some (vi to), some (vi of), some (vi what), some (vi j), some (vi i), none] [] (zmS C, σs, τ)) ?_ ?_ ?_ ?_
      · intro σs hl
        have hpic := hl.picG (H := (A.1 of.toNat).2.1) (by omega) hD.1 hD.2 (fun a b ha hb => aTurn_g ha hb) (fun x y hx hy => aTurn_r (fun x y hx hy => hq.d hx hy) hx hy)
        refine zw_iload 103 rfl dX11_turn_101 rfl ?_
        refine zw_aload_n 104 rfl dX11_turn_103 rfl ?_
        refine zw_iload_n 105 rfl dX11_turn_104 rfl ?_
        refine zw_cVi1 108 rfl dX11_turn_105 kX11_turn_176 (Nat.le_of_ble_eq_true rfl) (by first | assumption | exact zm_o0 | exact zm_o _ _ _ rfl) (m_highP (hq.s (by omega) hl.1)) ?_
        refine zw_icmp_ge 229 111 rfl dX11_turn_108 (by decide) (by omega) (by omega) (fun h_108 => ?_) (fun h_108 => ?_)
        · refine zw_aload_n 230 rfl dX11_turn_229 rfl ?_
          refine zw_iload_n 231 rfl dX11_turn_230 rfl ?_
          refine zw_cVr1 234 rfl dX11_turn_231 kX11_turn_203 (Nat.le_of_ble_eq_true rfl) (by first | assumption | exact zm_o0 | exact zm_o _ _ _ rfl) (m_becomes (hl.1.s.P h.p) (hl.1.s.H h.hs) hpic hc1) ?_
          rintro _ _ ⟨rfl, σ2, rfl, hA⟩
          refine zw_aload_n 235 rfl dX11_turn_234 rfl ?_
          refine zw_iconst 236 rfl dX11_turn_235 ?_
          refine zw_cVi1 239 rfl dX11_turn_236 kX11_turn_197 (Nat.le_of_ble_eq_true rfl) (by first | assumption | exact zm_o0 | exact zm_o _ _ _ rfl) m_yes ?_
          exact zw_zret (st := []) dX11_turn_239 rfl (by omega) (mAct h hl.1.s mScT.rf hA why)
        · omega
      · intro j hj hN
        intro σs hl
        refine zw_iload 103 rfl dX11_turn_101 rfl ?_
        refine zw_aload_n 104 rfl dX11_turn_103 rfl ?_
        refine zw_iload_n 105 rfl dX11_turn_104 rfl ?_
        refine zw_cVi1 108 rfl dX11_turn_105 kX11_turn_176 (Nat.le_of_ble_eq_true rfl) (by first | assumption | exact zm_o0 | exact zm_o _ _ _ rfl) (m_highP (hq.s (by omega) hl.1)) ?_
        refine zw_icmp_ge 229 111 rfl dX11_turn_108 (by decide) (by omega) (by omega) (fun h_108 => ?_) (fun h_108 => ?_)
        · omega
        · refine zw_iconst 112 rfl dX11_turn_111 ?_
          refine zw_istore 114 rfl dX11_turn_112 (Nat.le_of_ble_eq_true rfl) rfl ?_
          exact hN σs hl
      · intro j i hj hi hN
        intro σs hl
        have hdd := hq.d (x := i) (y := j) (by omega) (by omega)
        refine zw_iload 116 rfl dX11_turn_114 rfl ?_
        refine zw_aload_n 117 rfl dX11_turn_116 rfl ?_
        refine zw_iload_n 118 rfl dX11_turn_117 rfl ?_
        refine zw_cVi1 121 rfl dX11_turn_118 kX11_turn_170 (Nat.le_of_ble_eq_true rfl) (by first | assumption | exact zm_o0 | exact zm_o _ _ _ rfl) (m_wideP (hq.s (by omega) hl.1)) ?_
        refine zw_icmp_ge 223 124 rfl dX11_turn_121 (by decide) (by omega) (by omega) (fun h_121 => ?_) (fun h_121 => ?_)
        · omega
        · refine zw_aload_n 125 rfl dX11_turn_124 rfl ?_
          refine zw_iload_n 126 rfl dX11_turn_125 rfl ?_
          refine zw_iload 128 rfl dX11_turn_126 rfl ?_
          refine zw_iload 130 rfl dX11_turn_128 rfl ?_
          refine zw_cVi3 133 rfl dX11_turn_130 kX11_turn_182 (Nat.le_of_ble_eq_true rfl) (by first | assumption | exact zm_o0 | exact zm_o _ _ _ rfl) (m_dotP (hq.s (by omega) hl.1) (by omega) (by omega)) ?_
          refine zw_istore 135 rfl dX11_turn_133 (Nat.le_of_ble_eq_true rfl) rfl ?_
          refine zw_iload_n 136 rfl dX11_turn_135 rfl ?_
          refine zw_iconst 137 rfl dX11_turn_136 ?_
          refine zw_icmp_ne 155 140 rfl dX11_turn_137 (by decide) (by omega) (by omega) (fun h_137 => ?_) (fun h_137 => ?_)
          · refine zw_aload_n 156 rfl dX11_turn_155 rfl ?_
            refine zw_bipush 158 rfl dX11_turn_156 rfl ?_
            refine zw_iload_n 159 rfl dX11_turn_158 rfl ?_
            refine zw_iconst 160 rfl dX11_turn_159 ?_
            refine zw_icmp_ne 176 163 rfl dX11_turn_160 (by decide) (by omega) (by omega) (fun h_160 => ?_) (fun h_160 => ?_)
            · refine zw_iload 178 rfl dX11_turn_176 rfl ?_
              refine zw_iload_n 179 rfl dX11_turn_178 rfl ?_
              refine zw_iconst 180 rfl dX11_turn_179 ?_
              refine zw_icmp_ne 196 183 rfl dX11_turn_180 (by decide) (by omega) (by omega) (fun h_180 => ?_) (fun h_180 => ?_)
              · refine zw_iload 198 rfl dX11_turn_196 rfl ?_
                refine zw_iload_n 199 rfl dX11_turn_198 rfl ?_
                refine zw_iconst 200 rfl dX11_turn_199 ?_
                refine zw_icmp_ne 212 203 rfl dX11_turn_200 (by decide) (by omega) (by omega) (fun h_200 => ?_) (fun h_200 => ?_)
                · refine zw_iload 214 rfl dX11_turn_212 rfl ?_
                  refine zw_cVv4 217 rfl dX11_turn_214 kX11_turn_193 (Nat.le_of_ble_eq_true rfl) (by first | assumption | exact zm_o0 | exact zm_o _ _ _ rfl) (m_putsN (by omega) (by omega)) ?_
                  refine zw_iinc 220 rfl dX11_turn_217 (Nat.le_of_ble_eq_true rfl) rfl rfl ?_
                  refine zw_goto 114 dX11_turn_220 (by decide) ?_
                  first
                  | (exfalso; omega)
                  | (refine zw_drop 6 ?_
                     exact hN _ (hl.put (H := (A.1 of.toNat).2.1) (by omega) (by omega) (mTp_i (by omega) (by omega)) (by unfold mTp; (repeat' split) <;> omega) (by unfold mTp; (repeat' split) <;> omega) (by unfold mTv; (repeat' split) <;> omega)))
                · refine zw_sipush 206 rfl dX11_turn_203 rfl ?_
                  refine zw_iload 208 rfl dX11_turn_206 rfl ?_
                  refine zw_isub 209 rfl dX11_turn_208 ?_
                  refine zw_goto 214 dX11_turn_209 (by decide) ?_
                  refine zw_cVv4 217 rfl dX11_turn_214 kX11_turn_193 (Nat.le_of_ble_eq_true rfl) (by first | assumption | exact zm_o0 | exact zm_o _ _ _ rfl) (m_putsN (by omega) (by omega)) ?_
                  refine zw_iinc 220 rfl dX11_turn_217 (Nat.le_of_ble_eq_true rfl) rfl rfl ?_
                  refine zw_goto 114 dX11_turn_220 (by decide) ?_
                  first
                  | (exfalso; omega)
                  | (refine zw_drop 6 ?_
                     exact hN _ (hl.put (H := (A.1 of.toNat).2.1) (by omega) (by omega) (mTp_i (by omega) (by omega)) (by unfold mTp; (repeat' split) <;> omega) (by unfold mTp; (repeat' split) <;> omega) (by unfold mTv; (repeat' split) <;> omega)))
              · refine zw_aload_n 184 rfl dX11_turn_183 rfl ?_
                refine zw_iload_n 185 rfl dX11_turn_184 rfl ?_
                refine zw_cVi1 188 rfl dX11_turn_185 kX11_turn_176 (Nat.le_of_ble_eq_true rfl) (by first | assumption | exact zm_o0 | exact zm_o _ _ _ rfl) (m_highP (hq.s (by omega) hl.1)) ?_
                refine zw_iconst 189 rfl dX11_turn_188 ?_
                refine zw_isub 190 rfl dX11_turn_189 ?_
                refine zw_iload 192 rfl dX11_turn_190 rfl ?_
                refine zw_isub 193 rfl dX11_turn_192 ?_
                refine zw_goto 198 dX11_turn_193 (by decide) ?_
                refine zw_iload_n 199 rfl dX11_turn_198 rfl ?_
                refine zw_iconst 200 rfl dX11_turn_199 ?_
                refine zw_icmp_ne 212 203 rfl dX11_turn_200 (by decide) (by omega) (by omega) (fun h_200 => ?_) (fun h_200 => ?_)
                · refine zw_iload 214 rfl dX11_turn_212 rfl ?_
                  refine zw_cVv4 217 rfl dX11_turn_214 kX11_turn_193 (Nat.le_of_ble_eq_true rfl) (by first | assumption | exact zm_o0 | exact zm_o _ _ _ rfl) (m_putsN (by omega) (by omega)) ?_
                  refine zw_iinc 220 rfl dX11_turn_217 (Nat.le_of_ble_eq_true rfl) rfl rfl ?_
                  refine zw_goto 114 dX11_turn_220 (by decide) ?_
                  first
                  | (exfalso; omega)
                  | (refine zw_drop 6 ?_
                     exact hN _ (hl.put (H := (A.1 of.toNat).2.1) (by omega) (by omega) (mTp_i (by omega) (by omega)) (by unfold mTp; (repeat' split) <;> omega) (by unfold mTp; (repeat' split) <;> omega) (by unfold mTv; (repeat' split) <;> omega)))
                · refine zw_sipush 206 rfl dX11_turn_203 rfl ?_
                  refine zw_iload 208 rfl dX11_turn_206 rfl ?_
                  refine zw_isub 209 rfl dX11_turn_208 ?_
                  refine zw_goto 214 dX11_turn_209 (by decide) ?_
                  refine zw_cVv4 217 rfl dX11_turn_214 kX11_turn_193 (Nat.le_of_ble_eq_true rfl) (by first | assumption | exact zm_o0 | exact zm_o _ _ _ rfl) (m_putsN (by omega) (by omega)) ?_
                  refine zw_iinc 220 rfl dX11_turn_217 (Nat.le_of_ble_eq_true rfl) rfl rfl ?_
                  refine zw_goto 114 dX11_turn_220 (by decide) ?_
                  first
                  | (exfalso; omega)
                  | (refine zw_drop 6 ?_
                     exact hN _ (hl.put (H := (A.1 of.toNat).2.1) (by omega) (by omega) (mTp_i (by omega) (by omega)) (by unfold mTp; (repeat' split) <;> omega) (by unfold mTp; (repeat' split) <;> omega) (by unfold mTv; (repeat' split) <;> omega)))
            · refine zw_aload_n 164 rfl dX11_turn_163 rfl ?_
              refine zw_iload_n 165 rfl dX11_turn_164 rfl ?_
              refine zw_cVi1 168 rfl dX11_turn_165 kX11_turn_170 (Nat.le_of_ble_eq_true rfl) (by first | assumption | exact zm_o0 | exact zm_o _ _ _ rfl) (m_wideP (hq.s (by omega) hl.1)) ?_
              refine zw_iconst 169 rfl dX11_turn_168 ?_
              refine zw_isub 170 rfl dX11_turn_169 ?_
              refine zw_iload 172 rfl dX11_turn_170 rfl ?_
              refine zw_isub 173 rfl dX11_turn_172 ?_
              refine zw_goto 178 dX11_turn_173 (by decide) ?_
              refine zw_iload_n 179 rfl dX11_turn_178 rfl ?_
              refine zw_iconst 180 rfl dX11_turn_179 ?_
              refine zw_icmp_ne 196 183 rfl dX11_turn_180 (by decide) (by omega) (by omega) (fun h_180 => ?_) (fun h_180 => ?_)
              · refine zw_iload 198 rfl dX11_turn_196 rfl ?_
                refine zw_iload_n 199 rfl dX11_turn_198 rfl ?_
                refine zw_iconst 200 rfl dX11_turn_199 ?_
                refine zw_icmp_ne 212 203 rfl dX11_turn_200 (by decide) (by omega) (by omega) (fun h_200 => ?_) (fun h_200 => ?_)
                · refine zw_iload 214 rfl dX11_turn_212 rfl ?_
                  refine zw_cVv4 217 rfl dX11_turn_214 kX11_turn_193 (Nat.le_of_ble_eq_true rfl) (by first | assumption | exact zm_o0 | exact zm_o _ _ _ rfl) (m_putsN (by omega) (by omega)) ?_
                  refine zw_iinc 220 rfl dX11_turn_217 (Nat.le_of_ble_eq_true rfl) rfl rfl ?_
                  refine zw_goto 114 dX11_turn_220 (by decide) ?_
                  first
                  | (exfalso; omega)
                  | (refine zw_drop 6 ?_
                     exact hN _ (hl.put (H := (A.1 of.toNat).2.1) (by omega) (by omega) (mTp_i (by omega) (by omega)) (by unfold mTp; (repeat' split) <;> omega) (by unfold mTp; (repeat' split) <;> omega) (by unfold mTv; (repeat' split) <;> omega)))
                · refine zw_sipush 206 rfl dX11_turn_203 rfl ?_
                  refine zw_iload 208 rfl dX11_turn_206 rfl ?_
                  refine zw_isub 209 rfl dX11_turn_208 ?_
                  refine zw_goto 214 dX11_turn_209 (by decide) ?_
                  refine zw_cVv4 217 rfl dX11_turn_214 kX11_turn_193 (Nat.le_of_ble_eq_true rfl) (by first | assumption | exact zm_o0 | exact zm_o _ _ _ rfl) (m_putsN (by omega) (by omega)) ?_
                  refine zw_iinc 220 rfl dX11_turn_217 (Nat.le_of_ble_eq_true rfl) rfl rfl ?_
                  refine zw_goto 114 dX11_turn_220 (by decide) ?_
                  first
                  | (exfalso; omega)
                  | (refine zw_drop 6 ?_
                     exact hN _ (hl.put (H := (A.1 of.toNat).2.1) (by omega) (by omega) (mTp_i (by omega) (by omega)) (by unfold mTp; (repeat' split) <;> omega) (by unfold mTp; (repeat' split) <;> omega) (by unfold mTv; (repeat' split) <;> omega)))
              · refine zw_aload_n 184 rfl dX11_turn_183 rfl ?_
                refine zw_iload_n 185 rfl dX11_turn_184 rfl ?_
                refine zw_cVi1 188 rfl dX11_turn_185 kX11_turn_176 (Nat.le_of_ble_eq_true rfl) (by first | assumption | exact zm_o0 | exact zm_o _ _ _ rfl) (m_highP (hq.s (by omega) hl.1)) ?_
                refine zw_iconst 189 rfl dX11_turn_188 ?_
                refine zw_isub 190 rfl dX11_turn_189 ?_
                refine zw_iload 192 rfl dX11_turn_190 rfl ?_
                refine zw_isub 193 rfl dX11_turn_192 ?_
                refine zw_goto 198 dX11_turn_193 (by decide) ?_
                refine zw_iload_n 199 rfl dX11_turn_198 rfl ?_
                refine zw_iconst 200 rfl dX11_turn_199 ?_
                refine zw_icmp_ne 212 203 rfl dX11_turn_200 (by decide) (by omega) (by omega) (fun h_200 => ?_) (fun h_200 => ?_)
                · refine zw_iload 214 rfl dX11_turn_212 rfl ?_
                  refine zw_cVv4 217 rfl dX11_turn_214 kX11_turn_193 (Nat.le_of_ble_eq_true rfl) (by first | assumption | exact zm_o0 | exact zm_o _ _ _ rfl) (m_putsN (by omega) (by omega)) ?_
                  refine zw_iinc 220 rfl dX11_turn_217 (Nat.le_of_ble_eq_true rfl) rfl rfl ?_
                  refine zw_goto 114 dX11_turn_220 (by decide) ?_
                  first
                  | (exfalso; omega)
                  | (refine zw_drop 6 ?_
                     exact hN _ (hl.put (H := (A.1 of.toNat).2.1) (by omega) (by omega) (mTp_i (by omega) (by omega)) (by unfold mTp; (repeat' split) <;> omega) (by unfold mTp; (repeat' split) <;> omega) (by unfold mTv; (repeat' split) <;> omega)))
                · refine zw_sipush 206 rfl dX11_turn_203 rfl ?_
                  refine zw_iload 208 rfl dX11_turn_206 rfl ?_
                  refine zw_isub 209 rfl dX11_turn_208 ?_
                  refine zw_goto 214 dX11_turn_209 (by decide) ?_
                  refine zw_cVv4 217 rfl dX11_turn_214 kX11_turn_193 (Nat.le_of_ble_eq_true rfl) (by first | assumption | exact zm_o0 | exact zm_o _ _ _ rfl) (m_putsN (by omega) (by omega)) ?_
                  refine zw_iinc 220 rfl dX11_turn_217 (Nat.le_of_ble_eq_true rfl) rfl rfl ?_
                  refine zw_goto 114 dX11_turn_220 (by decide) ?_
                  first
                  | (exfalso; omega)
                  | (refine zw_drop 6 ?_
                     exact hN _ (hl.put (H := (A.1 of.toNat).2.1) (by omega) (by omega) (mTp_i (by omega) (by omega)) (by unfold mTp; (repeat' split) <;> omega) (by unfold mTp; (repeat' split) <;> omega) (by unfold mTv; (repeat' split) <;> omega)))
          · refine zw_aload_n 141 rfl dX11_turn_140 rfl ?_
            refine zw_bipush 143 rfl dX11_turn_141 rfl ?_
            refine zw_iload 145 rfl dX11_turn_143 rfl ?_
            refine zw_iload 147 rfl dX11_turn_145 rfl ?_
            refine zw_iload 149 rfl dX11_turn_147 rfl ?_
            refine zw_cVv4 152 rfl dX11_turn_149 kX11_turn_193 (Nat.le_of_ble_eq_true rfl) (by first | assumption | exact zm_o0 | exact zm_o _ _ _ rfl) (m_putsN (by omega) (by omega)) ?_
            refine zw_goto 217 dX11_turn_152 (by decide) ?_
            refine zw_iinc 220 rfl dX11_turn_217 (Nat.le_of_ble_eq_true rfl) rfl rfl ?_
            refine zw_goto 114 dX11_turn_220 (by decide) ?_
            first
            | (exfalso; omega)
            | (refine zw_drop 6 ?_
               exact hN _ (hl.put (H := (A.1 of.toNat).2.1) (by omega) (by omega) (mTp_i (by omega) (by omega)) (by unfold mTp; (repeat' split) <;> omega) (by unfold mTp; (repeat' split) <;> omega) (by unfold mTv; (repeat' split) <;> omega)))
      · intro j hj hO
        intro σs hl
        refine zw_iload 116 rfl dX11_turn_114 rfl ?_
        refine zw_aload_n 117 rfl dX11_turn_116 rfl ?_
        refine zw_iload_n 118 rfl dX11_turn_117 rfl ?_
        refine zw_cVi1 121 rfl dX11_turn_118 kX11_turn_170 (Nat.le_of_ble_eq_true rfl) (by first | assumption | exact zm_o0 | exact zm_o _ _ _ rfl) (m_wideP (hq.s (by omega) hl.1)) ?_
        refine zw_icmp_ge 223 124 rfl dX11_turn_121 (by decide) (by omega) (by omega) (fun h_121 => ?_) (fun h_121 => ?_)
        · refine zw_iinc 226 rfl dX11_turn_223 (Nat.le_of_ble_eq_true rfl) rfl rfl ?_
          refine zw_goto 101 dX11_turn_226 (by decide) ?_
          refine zw_drop 5 ?_
          exact hO σs hl.row
        · omega
    refine zw_aload_n 1 rfl dX11_turn_0 rfl ?_
    refine zw_iconst 2 rfl dX11_turn_1 ?_
    refine zw_puti 5 rfl dX11_turn_2 fp_X11_85 (by first | assumption | exact zm_o0 | exact zm_o _ _ _ rfl) ?_
    refine zw_iload_n 6 rfl dX11_turn_5 rfl ?_
    refine zw_iconst 7 rfl dX11_turn_6 ?_
    refine zw_iconst 8 rfl dX11_turn_7 ?_
    refine zw_cSi3 11 rfl dX11_turn_8 kX11_turn_106 (Nat.le_of_ble_eq_true rfl) (m_in (by omega) (by omega) (by omega)) ?_
    refine zw_if_eqB 31 14 rfl dX11_turn_11 (by decide) (fun h_11 => ?_) (fun h_11 => ?_)
    · first | exact absurd hc1 h_11 | exact absurd hc2 h_19 | exact absurd hc3 h_28
    · refine zw_aload_n 15 rfl dX11_turn_14 rfl ?_
      refine zw_iload_n 16 rfl dX11_turn_15 rfl ?_
      refine zw_cVi1 19 rfl dX11_turn_16 kX11_turn_173 (Nat.le_of_ble_eq_true rfl) (by first | assumption | exact zm_o0 | exact zm_o _ _ _ rfl) (m_isPicture hP hof) ?_
      refine zw_if_eqB 31 22 rfl dX11_turn_19 (by decide) (fun h_19 => ?_) (fun h_19 => ?_)
      · first | exact absurd hc1 h_11 | exact absurd hc2 h_19 | exact absurd hc3 h_28
      · refine zw_iload_n 23 rfl dX11_turn_22 rfl ?_
        refine zw_iconst 24 rfl dX11_turn_23 ?_
        refine zw_iconst 25 rfl dX11_turn_24 ?_
        refine zw_cSi3 28 rfl dX11_turn_25 kX11_turn_106 (Nat.le_of_ble_eq_true rfl) (m_in (by omega) (by omega) (by omega)) ?_
        refine zw_if_neB 37 31 rfl dX11_turn_28 (by decide) (fun h_28 => ?_) (fun h_28 => ?_)
        · refine zw_iload_n 38 rfl dX11_turn_37 rfl ?_
          refine zw_iconst 39 rfl dX11_turn_38 ?_
          refine zw_icmp_ne 58 42 rfl dX11_turn_39 (by decide) (by omega) (by omega) (fun h_39 => ?_) (fun h_39 => ?_)
          · refine zw_aload_n 59 rfl dX11_turn_58 rfl ?_
            refine zw_iload_n 60 rfl dX11_turn_59 rfl ?_
            refine zw_iconst 61 rfl dX11_turn_60 ?_
            refine zw_icmp_ne 72 64 rfl dX11_turn_61 (by decide) (by omega) (by omega) (fun h_61 => ?_) (fun h_61 => ?_)
            · refine zw_aload_n 73 rfl dX11_turn_72 rfl ?_
              refine zw_iload_n 74 rfl dX11_turn_73 rfl ?_
              refine zw_cVi1 77 rfl dX11_turn_74 kX11_turn_170 (Nat.le_of_ble_eq_true rfl) (by first | assumption | exact zm_o0 | exact zm_o _ _ _ rfl) (m_wideP hq1) ?_
              refine zw_iload_n 78 rfl dX11_turn_77 rfl ?_
              refine zw_iconst 79 rfl dX11_turn_78 ?_
              refine zw_icmp_ne 90 82 rfl dX11_turn_79 (by decide) (by omega) (by omega) (fun h_79 => ?_) (fun h_79 => ?_)
              · refine zw_aload_n 91 rfl dX11_turn_90 rfl ?_
                refine zw_iload_n 92 rfl dX11_turn_91 rfl ?_
                refine zw_cVi1 95 rfl dX11_turn_92 kX11_turn_176 (Nat.le_of_ble_eq_true rfl) (by first | assumption | exact zm_o0 | exact zm_o _ _ _ rfl) (m_highP hq1) ?_
                refine zw_cVv2 98 rfl dX11_turn_95 kX11_turn_200 (Nat.le_of_ble_eq_true rfl) (by first | assumption | exact zm_o0 | exact zm_o _ _ _ rfl) m_begins ?_
                refine zw_iconst 99 rfl dX11_turn_98 ?_
                refine zw_istore 101 rfl dX11_turn_99 (Nat.le_of_ble_eq_true rfl) rfl ?_
                first
                | (exfalso; omega)
                | (refine key _ ?_
                   unfold aTurn
                   first | (rw [if_pos h_61]; exact mNw.start (mSc2.rf.u (by unfold mKey2 mKey; omega))) | (rw [if_neg h_61]; exact mNw.start (mSc2.rf.u (by unfold mKey2 mKey; omega))))
              · refine zw_aload_n 83 rfl dX11_turn_82 rfl ?_
                refine zw_iload_n 84 rfl dX11_turn_83 rfl ?_
                refine zw_cVi1 87 rfl dX11_turn_84 kX11_turn_170 (Nat.le_of_ble_eq_true rfl) (by first | assumption | exact zm_o0 | exact zm_o _ _ _ rfl) (m_wideP hq1) ?_
                refine zw_goto 95 dX11_turn_87 (by decide) ?_
                refine zw_cVv2 98 rfl dX11_turn_95 kX11_turn_200 (Nat.le_of_ble_eq_true rfl) (by first | assumption | exact zm_o0 | exact zm_o _ _ _ rfl) m_begins ?_
                refine zw_iconst 99 rfl dX11_turn_98 ?_
                refine zw_istore 101 rfl dX11_turn_99 (Nat.le_of_ble_eq_true rfl) rfl ?_
                first
                | (exfalso; omega)
                | (refine key _ ?_
                   unfold aTurn
                   first | (rw [if_pos h_61]; exact mNw.start (mSc2.rf.u (by unfold mKey2 mKey; omega))) | (rw [if_neg h_61]; exact mNw.start (mSc2.rf.u (by unfold mKey2 mKey; omega))))
            · refine zw_aload_n 65 rfl dX11_turn_64 rfl ?_
              refine zw_iload_n 66 rfl dX11_turn_65 rfl ?_
              refine zw_cVi1 69 rfl dX11_turn_66 kX11_turn_176 (Nat.le_of_ble_eq_true rfl) (by first | assumption | exact zm_o0 | exact zm_o _ _ _ rfl) (m_highP hq1) ?_
              refine zw_goto 77 dX11_turn_69 (by decide) ?_
              refine zw_iload_n 78 rfl dX11_turn_77 rfl ?_
              refine zw_iconst 79 rfl dX11_turn_78 ?_
              refine zw_icmp_ne 90 82 rfl dX11_turn_79 (by decide) (by omega) (by omega) (fun h_79 => ?_) (fun h_79 => ?_)
              · refine zw_aload_n 91 rfl dX11_turn_90 rfl ?_
                refine zw_iload_n 92 rfl dX11_turn_91 rfl ?_
                refine zw_cVi1 95 rfl dX11_turn_92 kX11_turn_176 (Nat.le_of_ble_eq_true rfl) (by first | assumption | exact zm_o0 | exact zm_o _ _ _ rfl) (m_highP hq1) ?_
                refine zw_cVv2 98 rfl dX11_turn_95 kX11_turn_200 (Nat.le_of_ble_eq_true rfl) (by first | assumption | exact zm_o0 | exact zm_o _ _ _ rfl) m_begins ?_
                refine zw_iconst 99 rfl dX11_turn_98 ?_
                refine zw_istore 101 rfl dX11_turn_99 (Nat.le_of_ble_eq_true rfl) rfl ?_
                first
                | (exfalso; omega)
                | (refine key _ ?_
                   unfold aTurn
                   first | (rw [if_pos h_61]; exact mNw.start (mSc2.rf.u (by unfold mKey2 mKey; omega))) | (rw [if_neg h_61]; exact mNw.start (mSc2.rf.u (by unfold mKey2 mKey; omega))))
              · refine zw_aload_n 83 rfl dX11_turn_82 rfl ?_
                refine zw_iload_n 84 rfl dX11_turn_83 rfl ?_
                refine zw_cVi1 87 rfl dX11_turn_84 kX11_turn_170 (Nat.le_of_ble_eq_true rfl) (by first | assumption | exact zm_o0 | exact zm_o _ _ _ rfl) (m_wideP hq1) ?_
                refine zw_goto 95 dX11_turn_87 (by decide) ?_
                refine zw_cVv2 98 rfl dX11_turn_95 kX11_turn_200 (Nat.le_of_ble_eq_true rfl) (by first | assumption | exact zm_o0 | exact zm_o _ _ _ rfl) m_begins ?_
                refine zw_iconst 99 rfl dX11_turn_98 ?_
                refine zw_istore 101 rfl dX11_turn_99 (Nat.le_of_ble_eq_true rfl) rfl ?_
                first
                | (exfalso; omega)
                | (refine key _ ?_
                   unfold aTurn
                   first | (rw [if_pos h_61]; exact mNw.start (mSc2.rf.u (by unfold mKey2 mKey; omega))) | (rw [if_neg h_61]; exact mNw.start (mSc2.rf.u (by unfold mKey2 mKey; omega))))
          · refine zw_aload_n 43 rfl dX11_turn_42 rfl ?_
            refine zw_iload_n 44 rfl dX11_turn_43 rfl ?_
            refine zw_cVi1 47 rfl dX11_turn_44 kX11_turn_170 (Nat.le_of_ble_eq_true rfl) (by first | assumption | exact zm_o0 | exact zm_o _ _ _ rfl) (m_wideP hq1) ?_
            refine zw_bipush 49 rfl dX11_turn_47 rfl ?_
            refine zw_icmp_le 58 52 rfl dX11_turn_49 (by decide) (by omega) (by omega) (fun h_49 => ?_) (fun h_49 => ?_)
            · refine zw_aload_n 59 rfl dX11_turn_58 rfl ?_
              refine zw_iload_n 60 rfl dX11_turn_59 rfl ?_
              refine zw_iconst 61 rfl dX11_turn_60 ?_
              refine zw_icmp_ne 72 64 rfl dX11_turn_61 (by decide) (by omega) (by omega) (fun h_61 => ?_) (fun h_61 => ?_)
              · refine zw_aload_n 73 rfl dX11_turn_72 rfl ?_
                refine zw_iload_n 74 rfl dX11_turn_73 rfl ?_
                refine zw_cVi1 77 rfl dX11_turn_74 kX11_turn_170 (Nat.le_of_ble_eq_true rfl) (by first | assumption | exact zm_o0 | exact zm_o _ _ _ rfl) (m_wideP hq1) ?_
                refine zw_iload_n 78 rfl dX11_turn_77 rfl ?_
                refine zw_iconst 79 rfl dX11_turn_78 ?_
                refine zw_icmp_ne 90 82 rfl dX11_turn_79 (by decide) (by omega) (by omega) (fun h_79 => ?_) (fun h_79 => ?_)
                · refine zw_aload_n 91 rfl dX11_turn_90 rfl ?_
                  refine zw_iload_n 92 rfl dX11_turn_91 rfl ?_
                  refine zw_cVi1 95 rfl dX11_turn_92 kX11_turn_176 (Nat.le_of_ble_eq_true rfl) (by first | assumption | exact zm_o0 | exact zm_o _ _ _ rfl) (m_highP hq1) ?_
                  refine zw_cVv2 98 rfl dX11_turn_95 kX11_turn_200 (Nat.le_of_ble_eq_true rfl) (by first | assumption | exact zm_o0 | exact zm_o _ _ _ rfl) m_begins ?_
                  refine zw_iconst 99 rfl dX11_turn_98 ?_
                  refine zw_istore 101 rfl dX11_turn_99 (Nat.le_of_ble_eq_true rfl) rfl ?_
                  first
                  | (exfalso; omega)
                  | (refine key _ ?_
                     unfold aTurn
                     first | (rw [if_pos h_61]; exact mNw.start (mSc2.rf.u (by unfold mKey2 mKey; omega))) | (rw [if_neg h_61]; exact mNw.start (mSc2.rf.u (by unfold mKey2 mKey; omega))))
                · refine zw_aload_n 83 rfl dX11_turn_82 rfl ?_
                  refine zw_iload_n 84 rfl dX11_turn_83 rfl ?_
                  refine zw_cVi1 87 rfl dX11_turn_84 kX11_turn_170 (Nat.le_of_ble_eq_true rfl) (by first | assumption | exact zm_o0 | exact zm_o _ _ _ rfl) (m_wideP hq1) ?_
                  refine zw_goto 95 dX11_turn_87 (by decide) ?_
                  refine zw_cVv2 98 rfl dX11_turn_95 kX11_turn_200 (Nat.le_of_ble_eq_true rfl) (by first | assumption | exact zm_o0 | exact zm_o _ _ _ rfl) m_begins ?_
                  refine zw_iconst 99 rfl dX11_turn_98 ?_
                  refine zw_istore 101 rfl dX11_turn_99 (Nat.le_of_ble_eq_true rfl) rfl ?_
                  first
                  | (exfalso; omega)
                  | (refine key _ ?_
                     unfold aTurn
                     first | (rw [if_pos h_61]; exact mNw.start (mSc2.rf.u (by unfold mKey2 mKey; omega))) | (rw [if_neg h_61]; exact mNw.start (mSc2.rf.u (by unfold mKey2 mKey; omega))))
              · refine zw_aload_n 65 rfl dX11_turn_64 rfl ?_
                refine zw_iload_n 66 rfl dX11_turn_65 rfl ?_
                refine zw_cVi1 69 rfl dX11_turn_66 kX11_turn_176 (Nat.le_of_ble_eq_true rfl) (by first | assumption | exact zm_o0 | exact zm_o _ _ _ rfl) (m_highP hq1) ?_
                refine zw_goto 77 dX11_turn_69 (by decide) ?_
                refine zw_iload_n 78 rfl dX11_turn_77 rfl ?_
                refine zw_iconst 79 rfl dX11_turn_78 ?_
                refine zw_icmp_ne 90 82 rfl dX11_turn_79 (by decide) (by omega) (by omega) (fun h_79 => ?_) (fun h_79 => ?_)
                · refine zw_aload_n 91 rfl dX11_turn_90 rfl ?_
                  refine zw_iload_n 92 rfl dX11_turn_91 rfl ?_
                  refine zw_cVi1 95 rfl dX11_turn_92 kX11_turn_176 (Nat.le_of_ble_eq_true rfl) (by first | assumption | exact zm_o0 | exact zm_o _ _ _ rfl) (m_highP hq1) ?_
                  refine zw_cVv2 98 rfl dX11_turn_95 kX11_turn_200 (Nat.le_of_ble_eq_true rfl) (by first | assumption | exact zm_o0 | exact zm_o _ _ _ rfl) m_begins ?_
                  refine zw_iconst 99 rfl dX11_turn_98 ?_
                  refine zw_istore 101 rfl dX11_turn_99 (Nat.le_of_ble_eq_true rfl) rfl ?_
                  first
                  | (exfalso; omega)
                  | (refine key _ ?_
                     unfold aTurn
                     first | (rw [if_pos h_61]; exact mNw.start (mSc2.rf.u (by unfold mKey2 mKey; omega))) | (rw [if_neg h_61]; exact mNw.start (mSc2.rf.u (by unfold mKey2 mKey; omega))))
                · refine zw_aload_n 83 rfl dX11_turn_82 rfl ?_
                  refine zw_iload_n 84 rfl dX11_turn_83 rfl ?_
                  refine zw_cVi1 87 rfl dX11_turn_84 kX11_turn_170 (Nat.le_of_ble_eq_true rfl) (by first | assumption | exact zm_o0 | exact zm_o _ _ _ rfl) (m_wideP hq1) ?_
                  refine zw_goto 95 dX11_turn_87 (by decide) ?_
                  refine zw_cVv2 98 rfl dX11_turn_95 kX11_turn_200 (Nat.le_of_ble_eq_true rfl) (by first | assumption | exact zm_o0 | exact zm_o _ _ _ rfl) m_begins ?_
                  refine zw_iconst 99 rfl dX11_turn_98 ?_
                  refine zw_istore 101 rfl dX11_turn_99 (Nat.le_of_ble_eq_true rfl) rfl ?_
                  first
                  | (exfalso; omega)
                  | (refine key _ ?_
                     unfold aTurn
                     first | (rw [if_pos h_61]; exact mNw.start (mSc2.rf.u (by unfold mKey2 mKey; omega))) | (rw [if_neg h_61]; exact mNw.start (mSc2.rf.u (by unfold mKey2 mKey; omega))))
            · exfalso; have := h12 h_39; omega
        · first | exact absurd hc1 h_11 | exact absurd hc2 h_19 | exact absurd hc3 h_28
  refine zw_aload_n 1 rfl dX11_turn_0 rfl ?_
  refine zw_iconst 2 rfl dX11_turn_1 ?_
  refine zw_puti 5 rfl dX11_turn_2 fp_X11_85 (by first | assumption | exact zm_o0 | exact zm_o _ _ _ rfl) ?_
  refine zw_iload_n 6 rfl dX11_turn_5 rfl ?_
  refine zw_iconst 7 rfl dX11_turn_6 ?_
  refine zw_iconst 8 rfl dX11_turn_7 ?_
  refine zw_cSi3 11 rfl dX11_turn_8 kX11_turn_106 (Nat.le_of_ble_eq_true rfl) (m_in (by omega) (by omega) (by omega)) ?_
  refine zw_if_eqB 31 14 rfl dX11_turn_11 (by decide) (fun h_11 => ?_) (fun h_11 => ?_)
  · refine zw_aload_n 32 rfl dX11_turn_31 rfl ?_
    refine zw_iconst 33 rfl dX11_turn_32 ?_
    refine zw_cVi1 36 rfl dX11_turn_33 kX11_turn_197 (Nat.le_of_ble_eq_true rfl) (by first | assumption | exact zm_o0 | exact zm_o _ _ _ rfl) (m_no (by omega) (by omega)) ?_
    exact zw_zret (st := []) dX11_turn_36 rfl (by omega) (mRef h mThrown mScT.rf (by simp only [if_neg h_11, if_true, if_false]) (by omega))
  · refine zw_aload_n 15 rfl dX11_turn_14 rfl ?_
    refine zw_iload_n 16 rfl dX11_turn_15 rfl ?_
    refine zw_cVi1 19 rfl dX11_turn_16 kX11_turn_173 (Nat.le_of_ble_eq_true rfl) (by first | assumption | exact zm_o0 | exact zm_o _ _ _ rfl) (m_isPicture hP hof) ?_
    refine zw_if_eqB 31 22 rfl dX11_turn_19 (by decide) (fun h_19 => ?_) (fun h_19 => ?_)
    · refine zw_aload_n 32 rfl dX11_turn_31 rfl ?_
      refine zw_iconst 33 rfl dX11_turn_32 ?_
      refine zw_cVi1 36 rfl dX11_turn_33 kX11_turn_197 (Nat.le_of_ble_eq_true rfl) (by first | assumption | exact zm_o0 | exact zm_o _ _ _ rfl) (m_no (by omega) (by omega)) ?_
      exact zw_zret (st := []) dX11_turn_36 rfl (by omega) (mRef h mThrown mScT.rf (by simp only [if_pos h_11, if_neg h_19, if_true, if_false]) (by omega))
    · refine zw_iload_n 23 rfl dX11_turn_22 rfl ?_
      refine zw_iconst 24 rfl dX11_turn_23 ?_
      refine zw_iconst 25 rfl dX11_turn_24 ?_
      refine zw_cSi3 28 rfl dX11_turn_25 kX11_turn_106 (Nat.le_of_ble_eq_true rfl) (m_in (by omega) (by omega) (by omega)) ?_
      refine zw_if_neB 37 31 rfl dX11_turn_28 (by decide) (fun h_28 => ?_) (fun h_28 => ?_)
      · refine zw_iload_n 38 rfl dX11_turn_37 rfl ?_
        refine zw_iconst 39 rfl dX11_turn_38 ?_
        refine zw_icmp_ne 58 42 rfl dX11_turn_39 (by decide) (by omega) (by omega) (fun h_39 => ?_) (fun h_39 => ?_)
        · exfalso; first | exact hc ⟨h_11, h_19, h_28, fun q => absurd q h_39⟩ | exact hc ⟨h_11, h_19, h_28, fun q => by omega⟩
        · have hw := (hP.pc h_19).wh
          refine zw_aload_n 43 rfl dX11_turn_42 rfl ?_
          refine zw_iload_n 44 rfl dX11_turn_43 rfl ?_
          refine zw_cVi1 47 rfl dX11_turn_44 kX11_turn_170 (Nat.le_of_ble_eq_true rfl) (by first | assumption | exact zm_o0 | exact zm_o _ _ _ rfl) (m_wideP (hP.pc h_19)) ?_
          refine zw_bipush 49 rfl dX11_turn_47 rfl ?_
          refine zw_icmp_le 58 52 rfl dX11_turn_49 (by decide) (by omega) (by omega) (fun h_49 => ?_) (fun h_49 => ?_)
          · exfalso; first | exact hc ⟨h_11, h_19, h_28, fun q => absurd q h_39⟩ | exact hc ⟨h_11, h_19, h_28, fun q => by omega⟩
          · refine zw_aload_n 53 rfl dX11_turn_52 rfl ?_
            refine zw_iconst 54 rfl dX11_turn_53 ?_
            refine zw_cVi1 57 rfl dX11_turn_54 kX11_turn_197 (Nat.le_of_ble_eq_true rfl) (by first | assumption | exact zm_o0 | exact zm_o _ _ _ rfl) (m_no (by omega) (by omega)) ?_
            exact zw_zret (st := []) dX11_turn_57 rfl (by omega) (mRef h mThrown mScT.rf (by rw [if_pos h_11, if_pos h_19, if_pos h_28, if_pos h_39, if_pos (by omega)]) (by omega))
      · refine zw_aload_n 32 rfl dX11_turn_31 rfl ?_
        refine zw_iconst 33 rfl dX11_turn_32 ?_
        refine zw_cVi1 36 rfl dX11_turn_33 kX11_turn_197 (Nat.le_of_ble_eq_true rfl) (by first | assumption | exact zm_o0 | exact zm_o _ _ _ rfl) (m_no (by omega) (by omega)) ?_
        exact zw_zret (st := []) dX11_turn_36 rfl (by omega) (mRef h mThrown mScT.rf (by simp only [if_pos h_11, if_pos h_19, if_neg h_28, if_true, if_false]) (by omega))
theorem zfold_draw (s : Int) (n : Nat) : ∀ i : Nat, zfold (fun (_ : Nat) (s : Int) => (75 * s + 74) % 65537) i (zdraw s n) = zdraw s (n + i)
  | 0 => rfl
  | i + 1 => by show (75 * zfold _ i _ + 74) % 65537 = _; rw [zfold_draw s n i]; rfl
theorem zpt_draw (w s : Int) (j i : Nat) : zpt w (fun _ _ (s : Int) => (75 * s + 74) % 65537) s j i = zdraw s (j * w.toNat + i) := by
  unfold zpt
  have : zfold (fun (_ : Nat) => zfold (fun (_ : Nat) (s : Int) => (75 * s + 74) % 65537) w.toNat) j s = zdraw s (j * w.toNat) := by
    induction j with
    | zero => simp [zfold, zdraw]
    | succ j ih => show zfold _ w.toNat (zfold _ j s) = _; rw [ih, zfold_draw, Nat.succ_mul]
  rw [this, zfold_draw]
theorem zz_nat {w : Int} {j i : Nat} (hw : 0 ≤ w) : ((j : Int) * w + i + 1).toNat = j * w.toNat + i + 1 := by
  obtain ⟨w', rfl⟩ := Int.eq_ofNat_of_zero_le hw
  rw [Int.toNat_natCast]
  have : ((j : Int) * (w' : Int)) = ((j * w' : Nat) : Int) := by rw [Int.natCast_mul]
  omega
theorem Y_noise {G : zG} {C : Nat} {σ τ : zSt} {A : zA} {p s n : Int} (h : zmR C σ τ A) (hp : -2147483648 ≤ p ∧ p ≤ 2147483647) (hs : -2147483648 ≤ s ∧ s ≤ 2147483647) (hn : -2147483648 ≤ n ∧ n ≤ 2147483647) : zC G M_X11_noise [.ref C, vi p, vi s, vi n] (zmS C, σ, τ) (mQ C (sp_noise A p s n)) := by
  have hP := (mThrown (v := 0)).P h.p
  refine zC_of 5 rfl (Nat.le_of_ble_eq_true rfl) ?_
  by_cases hc : aTold A p ∧ (0 ≤ s ∧ s ≤ 65536) ∧ 0 ≤ n ∧ n ≤ 127
  · obtain ⟨hc1, hc2, hc3⟩ := hc
    have hq := h.p.pc hc1
    have hq1 := hP.pc hc1
    have hw := hq.wh
    have hF : ∀ x y s : Int, (fun _ _ (s : Int) => (75 * s + 74) % 65537 : Int → Int → Int → Int) x y s = (75 * s + 74) % 65537 := fun _ _ _ => rfl
    generalize hG : (fun _ _ (s : Int) => (75 * s + 74) % 65537 : Int → Int → Int → Int) = F at hF
    have hz : ∀ j i : Nat, zpt (A.1 p.toNat).1 F s j i = zdraw s (j * (A.1 p.toNat).1.toNat + i) := fun j i => by rw [← hG]; exact zpt_draw _ _ _ _
    have hzr : ∀ j i : Nat, 0 ≤ zpt (A.1 p.toNat).1 F s j i ∧ zpt (A.1 p.toNat).1 F s j i ≤ 65536 := fun j i => by rw [hz]; exact zdraw_r hc2 _
    have hV : ∀ j i : Nat, (aNoise (A.1 p.toNat) s n).2.2 i j = zhold 255 ((A.1 p.toNat).2.2 i j + zpt (A.1 p.toNat).1 F s j (i + 1) % (2 * n + 1) - n) := fun j i => by rw [hz]; show zhold 255 ((A.1 p.toNat).2.2 i j + zdraw s ((j : Int) * (A.1 p.toNat).1 + i + 1).toNat % (2 * n + 1) - n) = _; rw [zz_nat (by omega)]; rfl
    have key : ∀ σs : zSt, mNw C σ ((A.1 p.toNat).1) ((A.1 p.toNat).1) ((A.1 p.toNat).2.1) ((aNoise (A.1 p.toNat) s n).2.2) mAt 0 0 σs → zW G M_X11_noise (mQ C (sp_noise A p s n)) 66 [some (.ref C), some (vi p), some (vi s), some (vi n), some (vl (zpt (A.1 p.toNat).1 F s (0 : Nat) 0)), none, some (vi (0 : Nat)), none, none] [] (zmS C, σs, τ) := by
      refine zrows (w := ((A.1 p.toNat).1).toNat) (h := ((A.1 p.toNat).2.1).toNat) (O := fun j => ∀ σs : zSt, mNw C σ ((A.1 p.toNat).1) ((A.1 p.toNat).1) ((A.1 p.toNat).2.1) ((aNoise (A.1 p.toNat) s n).2.2) mAt j 0 σs → zW G M_X11_noise (mQ C (sp_noise A p s n)) 66 [some (.ref C), some (vi p), some (vi s), some (vi n), some (vl (zpt (A.1 p.toNat).1 F s j 0)), none, some (vi j), none, none] [] (zmS C, σs, τ)) (N := fun j i => ∀ σs : zSt, mNw C σ ((A.1 p.toNat).1) ((A.1 p.toNat).1) ((A.1 p.toNat).2.1) ((aNoise (A.1 p.toNat) s n).2.2) mAt j i σs → zW G M_X11_noise (mQ C (sp_noise A p s n)) 79 [some (.ref C), some (vi p), some (vi s), some (vi n), some (vl (zpt (A.1 p.toNat).1 F s j i)), none, some (vi j), some (vi i), none] [] (zmS C, σs, τ)) ?_ ?_ ?_ ?_
      · intro σs hl
        have hpic := hl.pic (by omega) (by omega) (by omega) (fun x y hx hy => zhold_r (by omega))
        refine zw_iload 68 rfl dX11_noise_66 rfl ?_
        refine zw_aload_n 69 rfl dX11_noise_68 rfl ?_
        refine zw_iload_n 70 rfl dX11_noise_69 rfl ?_
        refine zw_cVi1 73 rfl dX11_noise_70 kX11_noise_176 (Nat.le_of_ble_eq_true rfl) (by first | assumption | exact zm_o0 | exact zm_o _ _ _ rfl) (m_highP (hq.s (by omega) hl.1)) ?_
        refine zw_icmp_ge 176 76 rfl dX11_noise_73 (by decide) (by omega) (by omega) (fun h_73 => ?_) (fun h_73 => ?_)
        · refine zw_aload_n 177 rfl dX11_noise_176 rfl ?_
          refine zw_iload_n 178 rfl dX11_noise_177 rfl ?_
          refine zw_cVi1 181 rfl dX11_noise_178 kX11_noise_213 (Nat.le_of_ble_eq_true rfl) (by first | assumption | exact zm_o0 | exact zm_o _ _ _ rfl) (m_others (hq.s (by omega) hl.1) (hpic.n (by show 0 < (A.1 p.toNat).1; omega)) rfl rfl) ?_
          refine zw_istore 183 rfl dX11_noise_181 (Nat.le_of_ble_eq_true rfl) rfl ?_
          refine zw_aload_n 184 rfl dX11_noise_183 rfl ?_
          refine zw_iload_n 185 rfl dX11_noise_184 rfl ?_
          refine zw_cVr1 188 rfl dX11_noise_185 kX11_noise_203 (Nat.le_of_ble_eq_true rfl) (by first | assumption | exact zm_o0 | exact zm_o _ _ _ rfl) (m_becomes (hl.1.s.P h.p) (hl.1.s.H h.hs) hpic hc1.1) ?_
          rintro _ _ ⟨rfl, σ2, rfl, hA⟩
          refine zw_aload_n 189 rfl dX11_noise_188 rfl ?_
          refine zw_iload 191 rfl dX11_noise_189 rfl ?_
          refine zw_cVi1 194 rfl dX11_noise_191 kX11_noise_157 (Nat.le_of_ble_eq_true rfl) (by first | assumption | exact zm_o0 | exact zm_o _ _ _ rfl) m_good ?_
          exact zw_iret (st := []) dX11_noise_194 rfl (mAct h hl.1.s mScT.rf hA (by simp only [if_pos hc1, if_pos hc2, if_pos hc3]))
        · omega
      · intro j hj hN
        intro σs hl
        refine zw_iload 68 rfl dX11_noise_66 rfl ?_
        refine zw_aload_n 69 rfl dX11_noise_68 rfl ?_
        refine zw_iload_n 70 rfl dX11_noise_69 rfl ?_
        refine zw_cVi1 73 rfl dX11_noise_70 kX11_noise_176 (Nat.le_of_ble_eq_true rfl) (by first | assumption | exact zm_o0 | exact zm_o _ _ _ rfl) (m_highP (hq.s (by omega) hl.1)) ?_
        refine zw_icmp_ge 176 76 rfl dX11_noise_73 (by decide) (by omega) (by omega) (fun h_73 => ?_) (fun h_73 => ?_)
        · omega
        · refine zw_iconst 77 rfl dX11_noise_76 ?_
          refine zw_istore 79 rfl dX11_noise_77 (Nat.le_of_ble_eq_true rfl) rfl ?_
          exact hN σs hl
      · intro j i hj hi hN
        intro σs hl
        have hdd := hq.d (x := i) (y := j) (by omega) (by omega)
        have hz1 := hzr j i
        have hz2 := hzr j (i + 1)
        have hz3 := zz_rem (v := zpt (A.1 p.toNat).1 F s j (i + 1)) (z := 2 * n + 1) (by omega)
        refine zw_iload 81 rfl dX11_noise_79 rfl ?_
        refine zw_aload_n 82 rfl dX11_noise_81 rfl ?_
        refine zw_iload_n 83 rfl dX11_noise_82 rfl ?_
        refine zw_cVi1 86 rfl dX11_noise_83 kX11_noise_170 (Nat.le_of_ble_eq_true rfl) (by first | assumption | exact zm_o0 | exact zm_o _ _ _ rfl) (m_wideP (hq.s (by omega) hl.1)) ?_
        refine zw_icmp_ge 170 89 rfl dX11_noise_86 (by decide) (by omega) (by omega) (fun h_86 => ?_) (fun h_86 => ?_)
        · omega
        · refine zw_ldc2_w 92 rfl dX11_noise_89 kX11_207 ?_
          refine zw_lload 94 rfl dX11_noise_92 rfl ?_
          refine zw_lmul 95 rfl dX11_noise_94 ?_
          refine zw_ldc2_w 98 rfl dX11_noise_95 kX11_209 ?_
          refine zw_ladd 99 rfl dX11_noise_98 ?_
          refine zw_ldc2_w 102 rfl dX11_noise_99 kX11_211 ?_
          refine zw_lrem 103 rfl dX11_noise_102 (by omega) (by omega) ?_
          rw [show (75 * zpt (A.1 p.toNat).1 F s j i + 74) % 65537 = zpt (A.1 p.toNat).1 F s j (i + 1) from (hF _ _ _).symm.trans (zpt_s _ _ _ _ _).symm]
          refine zw_lstore 105 rfl dX11_noise_103 (Nat.le_of_ble_eq_true rfl) rfl ?_
          refine zw_aload_n 106 rfl dX11_noise_105 rfl ?_
          refine zw_iload_n 107 rfl dX11_noise_106 rfl ?_
          refine zw_iload 109 rfl dX11_noise_107 rfl ?_
          refine zw_iload 111 rfl dX11_noise_109 rfl ?_
          refine zw_cVi3 114 rfl dX11_noise_111 kX11_noise_182 (Nat.le_of_ble_eq_true rfl) (by first | assumption | exact zm_o0 | exact zm_o _ _ _ rfl) (m_dotP (hq.s (by omega) hl.1) (by omega) (by omega)) ?_
          refine zw_lload 116 rfl dX11_noise_114 rfl ?_
          refine zw_iconst 117 rfl dX11_noise_116 ?_
          refine zw_iload_n 118 rfl dX11_noise_117 rfl ?_
          refine zw_imul 119 rfl dX11_noise_118 ?_
          refine zw_iconst 120 rfl dX11_noise_119 ?_
          refine zw_iadd 121 rfl dX11_noise_120 ?_
          refine zw_i2l 122 rfl dX11_noise_121 (by omega) ?_
          refine zw_lrem 123 rfl dX11_noise_122 (by omega) (by omega) ?_
          refine zw_l2i 124 rfl dX11_noise_123 ?_
          refine zw_iadd 125 rfl dX11_noise_124 ?_
          refine zw_iload_n 126 rfl dX11_noise_125 rfl ?_
          refine zw_isub 127 rfl dX11_noise_126 ?_
          refine zw_istore 129 rfl dX11_noise_127 (Nat.le_of_ble_eq_true rfl) rfl ?_
          refine zw_aload_n 130 rfl dX11_noise_129 rfl ?_
          refine zw_bipush 132 rfl dX11_noise_130 rfl ?_
          refine zw_iload 134 rfl dX11_noise_132 rfl ?_
          refine zw_iload 136 rfl dX11_noise_134 rfl ?_
          refine zw_iload 138 rfl dX11_noise_136 rfl ?_
          refine zw_if_ge 145 141 rfl dX11_noise_138 (by decide) (by omega) (fun h_138 => ?_) (fun h_138 => ?_)
          · refine zw_iload 147 rfl dX11_noise_145 rfl ?_
            refine zw_sipush 150 rfl dX11_noise_147 rfl ?_
            refine zw_icmp_le 159 153 rfl dX11_noise_150 (by decide) (by omega) (by omega) (fun h_150 => ?_) (fun h_150 => ?_)
            · refine zw_iload 161 rfl dX11_noise_159 rfl ?_
              refine zw_cVv4 164 rfl dX11_noise_161 kX11_noise_193 (Nat.le_of_ble_eq_true rfl) (by first | assumption | exact zm_o0 | exact zm_o _ _ _ rfl) (m_putsN (by omega) (by omega)) ?_
              refine zw_iinc 167 rfl dX11_noise_164 (Nat.le_of_ble_eq_true rfl) rfl rfl ?_
              refine zw_goto 79 dX11_noise_167 (by decide) ?_
              refine zw_drop 8 ?_
              exact hN _ (hl.put1 (by omega) (by omega) (by omega) (by omega) (by omega) (by rw [hV]; unfold zhold; (repeat' split) <;> omega))
            · refine zw_sipush 156 rfl dX11_noise_153 rfl ?_
              refine zw_goto 161 dX11_noise_156 (by decide) ?_
              refine zw_cVv4 164 rfl dX11_noise_161 kX11_noise_193 (Nat.le_of_ble_eq_true rfl) (by first | assumption | exact zm_o0 | exact zm_o _ _ _ rfl) (m_putsN (by omega) (by omega)) ?_
              refine zw_iinc 167 rfl dX11_noise_164 (Nat.le_of_ble_eq_true rfl) rfl rfl ?_
              refine zw_goto 79 dX11_noise_167 (by decide) ?_
              refine zw_drop 8 ?_
              exact hN _ (hl.put1 (by omega) (by omega) (by omega) (by omega) (by omega) (by rw [hV]; unfold zhold; (repeat' split) <;> omega))
          · refine zw_iconst 142 rfl dX11_noise_141 ?_
            refine zw_goto 161 dX11_noise_142 (by decide) ?_
            refine zw_cVv4 164 rfl dX11_noise_161 kX11_noise_193 (Nat.le_of_ble_eq_true rfl) (by first | assumption | exact zm_o0 | exact zm_o _ _ _ rfl) (m_putsN (by omega) (by omega)) ?_
            refine zw_iinc 167 rfl dX11_noise_164 (Nat.le_of_ble_eq_true rfl) rfl rfl ?_
            refine zw_goto 79 dX11_noise_167 (by decide) ?_
            refine zw_drop 8 ?_
            exact hN _ (hl.put1 (by omega) (by omega) (by omega) (by omega) (by omega) (by rw [hV]; unfold zhold; (repeat' split) <;> omega))
      · intro j hj hO
        intro σs hl
        refine zw_iload 81 rfl dX11_noise_79 rfl ?_
        refine zw_aload_n 82 rfl dX11_noise_81 rfl ?_
        refine zw_iload_n 83 rfl dX11_noise_82 rfl ?_
        refine zw_cVi1 86 rfl dX11_noise_83 kX11_noise_170 (Nat.le_of_ble_eq_true rfl) (by first | assumption | exact zm_o0 | exact zm_o _ _ _ rfl) (m_wideP (hq.s (by omega) hl.1)) ?_
        refine zw_icmp_ge 170 89 rfl dX11_noise_86 (by decide) (by omega) (by omega) (fun h_86 => ?_) (fun h_86 => ?_)
        · refine zw_iinc 173 rfl dX11_noise_170 (Nat.le_of_ble_eq_true rfl) rfl rfl ?_
          refine zw_goto 66 dX11_noise_173 (by decide) ?_
          refine zw_drop 7 ?_
          exact hO σs hl.row
        · omega
    refine zw_aload_n 1 rfl dX11_noise_0 rfl ?_
    refine zw_iconst 2 rfl dX11_noise_1 ?_
    refine zw_puti 5 rfl dX11_noise_2 fp_X11_85 (by first | assumption | exact zm_o0 | exact zm_o _ _ _ rfl) ?_
    refine zw_aload_n 6 rfl dX11_noise_5 rfl ?_
    refine zw_iload_n 7 rfl dX11_noise_6 rfl ?_
    refine zw_cVi1 10 rfl dX11_noise_7 kX11_noise_173 (Nat.le_of_ble_eq_true rfl) (by first | assumption | exact zm_o0 | exact zm_o _ _ _ rfl) (m_isPicture hP hp) ?_
    refine zw_if_neB 19 13 rfl dX11_noise_10 (by decide) (fun h_10 => ?_) (fun h_10 => ?_)
    · refine zw_iload_n 20 rfl dX11_noise_19 rfl ?_
      refine zw_iconst 21 rfl dX11_noise_20 ?_
      refine zw_ldc 23 rfl dX11_noise_21 kX11_206 ?_
      refine zw_cSi3 26 rfl dX11_noise_23 kX11_noise_106 (Nat.le_of_ble_eq_true rfl) (m_in (by omega) (by omega) (by omega)) ?_
      refine zw_if_eqB 39 29 rfl dX11_noise_26 (by decide) (fun h_26 => ?_) (fun h_26 => ?_)
      · first | exact absurd hc2 h_26 | exact absurd hc3 h_36
      · refine zw_iload_n 30 rfl dX11_noise_29 rfl ?_
        refine zw_iconst 31 rfl dX11_noise_30 ?_
        refine zw_bipush 33 rfl dX11_noise_31 rfl ?_
        refine zw_cSi3 36 rfl dX11_noise_33 kX11_noise_106 (Nat.le_of_ble_eq_true rfl) (m_in (by omega) (by omega) (by omega)) ?_
        refine zw_if_neB 45 39 rfl dX11_noise_36 (by decide) (fun h_36 => ?_) (fun h_36 => ?_)
        · refine zw_iload_n 46 rfl dX11_noise_45 rfl ?_
          refine zw_i2l 47 rfl dX11_noise_46 (by omega) ?_
          refine zw_lstore 49 rfl dX11_noise_47 (Nat.le_of_ble_eq_true rfl) rfl ?_
          refine zw_aload_n 50 rfl dX11_noise_49 rfl ?_
          refine zw_aload_n 51 rfl dX11_noise_50 rfl ?_
          refine zw_iload_n 52 rfl dX11_noise_51 rfl ?_
          refine zw_cVi1 55 rfl dX11_noise_52 kX11_noise_170 (Nat.le_of_ble_eq_true rfl) (by first | assumption | exact zm_o0 | exact zm_o _ _ _ rfl) (m_wideP hq1) ?_
          refine zw_aload_n 56 rfl dX11_noise_55 rfl ?_
          refine zw_iload_n 57 rfl dX11_noise_56 rfl ?_
          refine zw_cVi1 60 rfl dX11_noise_57 kX11_noise_176 (Nat.le_of_ble_eq_true rfl) (by first | assumption | exact zm_o0 | exact zm_o _ _ _ rfl) (m_highP hq1) ?_
          refine zw_cVv2 63 rfl dX11_noise_60 kX11_noise_200 (Nat.le_of_ble_eq_true rfl) (by first | assumption | exact zm_o0 | exact zm_o _ _ _ rfl) m_begins ?_
          refine zw_iconst 64 rfl dX11_noise_63 ?_
          refine zw_istore 66 rfl dX11_noise_64 (Nat.le_of_ble_eq_true rfl) rfl ?_
          exact key _ (mNw.start (mSc2.rf.u (by unfold mKey2 mKey; omega)))
        · first | exact absurd hc2 h_26 | exact absurd hc3 h_36
    · exact absurd hc1 h_10
  refine zw_aload_n 1 rfl dX11_noise_0 rfl ?_
  refine zw_iconst 2 rfl dX11_noise_1 ?_
  refine zw_puti 5 rfl dX11_noise_2 fp_X11_85 (by first | assumption | exact zm_o0 | exact zm_o _ _ _ rfl) ?_
  refine zw_aload_n 6 rfl dX11_noise_5 rfl ?_
  refine zw_iload_n 7 rfl dX11_noise_6 rfl ?_
  refine zw_cVi1 10 rfl dX11_noise_7 kX11_noise_173 (Nat.le_of_ble_eq_true rfl) (by first | assumption | exact zm_o0 | exact zm_o _ _ _ rfl) (m_isPicture hP hp) ?_
  refine zw_if_neB 19 13 rfl dX11_noise_10 (by decide) (fun h_10 => ?_) (fun h_10 => ?_)
  · refine zw_iload_n 20 rfl dX11_noise_19 rfl ?_
    refine zw_iconst 21 rfl dX11_noise_20 ?_
    refine zw_ldc 23 rfl dX11_noise_21 kX11_206 ?_
    refine zw_cSi3 26 rfl dX11_noise_23 kX11_noise_106 (Nat.le_of_ble_eq_true rfl) (m_in (by omega) (by omega) (by omega)) ?_
    refine zw_if_eqB 39 29 rfl dX11_noise_26 (by decide) (fun h_26 => ?_) (fun h_26 => ?_)
    · refine zw_aload_n 40 rfl dX11_noise_39 rfl ?_
      refine zw_iconst 41 rfl dX11_noise_40 ?_
      refine zw_cVi1 44 rfl dX11_noise_41 kX11_noise_147 (Nat.le_of_ble_eq_true rfl) (by first | assumption | exact zm_o0 | exact zm_o _ _ _ rfl) m_refused ?_
      exact zw_iret (st := []) dX11_noise_44 rfl (mRef h mThrown mScT.rf (by simp only [if_pos h_10, if_neg h_26, if_true, if_false]) (by omega))
    · refine zw_iload_n 30 rfl dX11_noise_29 rfl ?_
      refine zw_iconst 31 rfl dX11_noise_30 ?_
      refine zw_bipush 33 rfl dX11_noise_31 rfl ?_
      refine zw_cSi3 36 rfl dX11_noise_33 kX11_noise_106 (Nat.le_of_ble_eq_true rfl) (m_in (by omega) (by omega) (by omega)) ?_
      refine zw_if_neB 45 39 rfl dX11_noise_36 (by decide) (fun h_36 => ?_) (fun h_36 => ?_)
      · exact absurd ⟨h_10, h_26, h_36⟩ hc
      · refine zw_aload_n 40 rfl dX11_noise_39 rfl ?_
        refine zw_iconst 41 rfl dX11_noise_40 ?_
        refine zw_cVi1 44 rfl dX11_noise_41 kX11_noise_147 (Nat.le_of_ble_eq_true rfl) (by first | assumption | exact zm_o0 | exact zm_o _ _ _ rfl) m_refused ?_
        exact zw_iret (st := []) dX11_noise_44 rfl (mRef h mThrown mScT.rf (by simp only [if_pos h_10, if_pos h_26, if_neg h_36, if_true, if_false]) (by omega))
  · refine zw_aload_n 14 rfl dX11_noise_13 rfl ?_
    refine zw_iconst 15 rfl dX11_noise_14 ?_
    refine zw_cVi1 18 rfl dX11_noise_15 kX11_noise_147 (Nat.le_of_ble_eq_true rfl) (by first | assumption | exact zm_o0 | exact zm_o _ _ _ rfl) m_refused ?_
    exact zw_iret (st := []) dX11_noise_18 rfl (mRef h mThrown mScT.rf (by simp only [if_neg h_10, if_true, if_false]) (by omega))
