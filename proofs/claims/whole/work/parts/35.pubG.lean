/-! ===== mix, above, stretch ===== -/
def aMix (p q : zPc) (m : Int) : zPc := (p.1, p.2.1, fun x y => znear (m * p.2.2 x y + (100 - m) * q.2.2 x y) 100)
def sp_mix (A : zA) (to of ot m : Int) : Int × zA := aAns (if aPl to then if aTold A of then if aTold A ot then if 0 ≤ m ∧ m ≤ 100 then if aLike A of ot then 0 else 5 else 2 else 1 else 1 else 1) 0 A (1, aAct A to.toNat (aMix (A.1 of.toNat) (A.1 ot.toNat) m))
theorem zz_mix {u v m : Int} (hu : 0 ≤ u ∧ u ≤ 255) (hv : 0 ≤ v ∧ v ≤ 255) (hm : 0 ≤ m ∧ m ≤ 100) : 0 ≤ m * u + (100 - m) * v ∧ m * u + (100 - m) * v ≤ 255 * 100 := by
  have h1 : 0 ≤ m * u := Int.mul_nonneg hm.1 hu.1
  have h2 : m * u ≤ m * 255 := Int.mul_le_mul_of_nonneg_left hu.2 hm.1
  have h3 : 0 ≤ (100 - m) * v := Int.mul_nonneg (by omega) hv.1
  have h4 : (100 - m) * v ≤ (100 - m) * 255 := Int.mul_le_mul_of_nonneg_left hv.2 (by omega)
  omega
theorem X_mix {G : zG} {B : Nat} {σ τ : zSt} {A : zA} {to of ot m : Int} (h : zxR B σ τ A) (hto : -2147483648 ≤ to ∧ to ≤ 2147483647) (hof : -2147483648 ≤ of ∧ of ≤ 2147483647) (hot : -2147483648 ≤ ot ∧ ot ≤ 2147483647) (hm : -2147483648 ≤ m ∧ m ≤ 2147483647) : zC G M_X10_mix [.ref B, vi to, vi of, vi ot, vi m] (zxS B, σ, τ) (xQ B (sp_mix A to of ot m)) := by
  refine zC_of 3 rfl (Nat.le_of_ble_eq_true rfl) ?_
  have body : aPl to → aTold A of → aTold A ot → (0 ≤ m ∧ m ≤ 100) → aLike A of ot → zW G M_X10_mix (xQ B (sp_mix A to of ot m)) 65 [some (.ref B), some (vi to), some (vi of), some (vi ot), some (vi m), none, none, none] [] (zxS B, zu σ B 17 0, τ) := by
    intro hc1 hc2 hc2' hc3 hlk
    have hwh := (h.p of.toNat (by omega)).wh hc2.2
    have hcn := zz_wh (w := (A.1 of.toNat).1) (h := (A.1 of.toNat).2.1) (by omega) (by omega)
    have hdr := ((h.p of.toNat (by omega)).2.2 hc2.2).2.2
    generalize hσ1 : zu σ B 17 0 = σ1
    have h17 : σ1 B 17 = 0 := by rw [← hσ1]; exact zu_eq _ _ _ _
    have hs1 : xScr B σ σ1 := by rw [← hσ1]; exact xScr.z
    have hp1 := hs1.P h.p of.toNat (by omega)
    have hsd := hp1.sd hc2.2
    rw [(hp1.wh hc2.2).1.1, (hp1.wh hc2.2).1.2] at hsd
    unfold zSd at hsd
    have hst := fun (N : Nat → Int) => xDI.start (B := B) (N := N) hp1 hc2.2
    have hOf := (hp1.2.2 hc2.2).2.2
    generalize σ1 (zpa B of.toNat + 1) = O at hsd hst hOf
    have hp2 := hs1.P h.p ot.toNat (by omega)
    have hsd2 := hp2.sd hc2'.2
    rw [(hp2.wh hc2'.2).1.1, (hp2.wh hc2'.2).1.2, ← hlk.1, ← hlk.2] at hsd2
    unfold zSd at hsd2
    have hOf2 := (hp2.2.2 hc2'.2).2.2
    rw [← hlk.1, ← hlk.2] at hOf2
    have hO2 : ∀ σs, xScr B σ1 σs → σs (zpa B ot.toNat + 1) = σ1 (zpa B ot.toNat + 1) := fun σs q => q.2 _ (by simp only [zpa]; omega) (by simp only [zpa]; omega) (by simp only [zpa]; omega)
    generalize σ1 (zpa B ot.toNat + 1) = O2 at hsd2 hOf2 hO2
    generalize hN : (fun d : Nat => znear (m * O d + (100 - m) * O2 d) 100) = N
    have hN' : ∀ d : Nat, znear (m * O d + (100 - m) * O2 d) 100 = N d := fun d => by rw [← hN]
    have loop : ∀ (fu i : Nat) (σs : zSt), (i : Int) ≤ (A.1 of.toNat).1 * (A.1 of.toNat).2.1 → (A.1 of.toNat).1 * (A.1 of.toNat).2.1 - i < fu → xDI B σ1 (A.1 of.toNat).1 (A.1 of.toNat).2.1 N O i σs → zW G M_X10_mix (xQ B (sp_mix A to of ot m)) 89 [some (.ref B), some (vi to), some (vi of), some (vi ot), some (vi m), some (.ref (zpa B ot.toNat)), some (vi i), none] [] (zxS B, σs, τ) := by
      intro fu
      induction fu with
      | zero => intro i σs h1 h2; omega
      | succ fu ih =>
        intro i σs h1 h2 hl
        have hw1 := hl.2.2.1
        have hw2 := hl.2.2.2.1
        have hpw : zPW σs (B + 2) := by unfold zPW; omega
        have hO : (i : Int) < (A.1 of.toNat).1 * (A.1 of.toNat).2.1 → σs (B + 3) i = O i := hl.2.2.2.2.2 i (Nat.le_refl _)
        have hs2 := hs1.tr hl.1

        have hq6 := (zx_p6 (B := B) (i := ot.toNat) (by omega))
        refine zw_iload 91 rfl dX10_mix_89 rfl ?_
        refine zw_aload_n 92 rfl dX10_mix_91 rfl ?_
        refine zw_getr 95 rfl dX10_mix_92 fl_X10_16 (by first | assumption | exact zx_o0 | exact zx_o _ _ _ rfl) (by first | assumption | exact zx_f0 _ _ rfl | exact zx_f _ _ _ rfl) ?_
        refine zw_cVi0 98 rfl dX10_mix_95 kX10_mix_212 (Nat.le_of_ble_eq_true rfl) (by first | assumption | exact zx_o0 | exact zx_o _ _ _ rfl) (c_count zx_work) ?_
        rw [hw1, hw2]
        refine zw_icmp_ge 156 101 rfl dX10_mix_98 (by decide) (by omega) (by omega) (fun h_98 => ?_) (fun h_98 => ?_)
        · have hpic : xrPic σs (B + 2) (aMix (A.1 of.toNat) (A.1 ot.toNat) m) := hl.pic (by omega) (by omega) (by omega) (fun x y hx hy => by
            have i1 := zz_ix hx hy (by omega) (by omega)
            refine ⟨?_, ?_⟩
            · rw [← hN', (hOf x y hx hy).1, (hOf2 x y hx hy).1]
            · have hmx := zz_mix (hdr x y hx hy).2 (hOf2 x y hx hy).2 hc3
              exact znear_r hmx.1 (by omega) hmx.2)
          refine zw_aload_n 157 rfl dX10_mix_156 rfl ?_
          refine zw_iload_n 158 rfl dX10_mix_157 rfl ?_
          refine zw_cVr1 161 rfl dX10_mix_158 kX10_mix_188 (Nat.le_of_ble_eq_true rfl) (by first | assumption | exact zx_o0 | exact zx_o _ _ _ rfl) (c_actOn (hs2.P h.p) (hs2.H h.hs) hpic hc1) ?_
          rintro _ _ ⟨rfl, σ2, rfl, hA⟩
          refine zw_iconst 162 rfl dX10_mix_161 ?_
          exact zw_zret (st := []) dX10_mix_162 rfl (by omega) (xGood (σ := σ) (τ := τ) (by rw [if_pos hc1, if_pos hc2, if_pos hc2', if_pos hc3, if_pos hlk]) rfl (h.act hs2 rfl (hl.2.1.trans h17) hA (by omega)))
        · have hmx := zz_mix (hsd i (by omega)) (hsd2 i (by omega)) hc3
          refine zw_iload 103 rfl dX10_mix_101 rfl ?_
          refine zw_aload_n 104 rfl dX10_mix_103 rfl ?_
          refine zw_getr 107 rfl dX10_mix_104 fl_X10_16 (by first | assumption | exact zx_o0 | exact zx_o _ _ _ rfl) (by first | assumption | exact zx_f0 _ _ rfl | exact zx_f _ _ _ rfl) ?_
          refine zw_getr 110 rfl dX10_mix_107 fl_X10_198 (by first | assumption | exact zx_o0 | exact zx_o _ _ _ rfl) (by first | exact hq6.2.1 | exact zx_f _ _ _ rfl) ?_
          refine zw_iload 112 rfl dX10_mix_110 rfl ?_
          refine zw_iald 113 rfl dX10_mix_112 (by first | assumption | exact zx_o0 | exact zx_o _ _ _ rfl) (by omega) (by omega) ?_
          rw [Int.toNat_natCast, hO (by omega)]
          refine zw_imul 114 rfl dX10_mix_113 ?_
          refine zw_bipush 116 rfl dX10_mix_114 rfl ?_
          refine zw_iload 118 rfl dX10_mix_116 rfl ?_
          refine zw_isub 119 rfl dX10_mix_118 ?_
          refine zw_aload 121 rfl dX10_mix_119 rfl ?_
          refine zw_getr 124 rfl dX10_mix_121 fl_X10_198 hq6.1 (by first | exact hq6.2.1 | exact zx_f _ _ _ rfl) ?_
          refine zw_iload 126 rfl dX10_mix_124 rfl ?_
          refine zw_iald 127 rfl dX10_mix_126 hq6.2.2.1 (by omega) (by omega) ?_
          rw [Int.toNat_natCast, hO2 σs hl.1]
          refine zw_imul 128 rfl dX10_mix_127 ?_
          refine zw_iadd 129 rfl dX10_mix_128 ?_
          refine zw_istore 131 rfl dX10_mix_129 (Nat.le_of_ble_eq_true rfl) rfl ?_
          refine zw_aload_n 132 rfl dX10_mix_131 rfl ?_
          refine zw_getr 135 rfl dX10_mix_132 fl_X10_16 (by first | assumption | exact zx_o0 | exact zx_o _ _ _ rfl) (by first | assumption | exact zx_f0 _ _ rfl | exact zx_f _ _ _ rfl) ?_
          refine zw_getr 138 rfl dX10_mix_135 fl_X10_198 (by first | assumption | exact zx_o0 | exact zx_o _ _ _ rfl) (by first | exact hq6.2.1 | exact zx_f _ _ _ rfl) ?_
          refine zw_iload 140 rfl dX10_mix_138 rfl ?_
          refine zw_iload 142 rfl dX10_mix_140 rfl ?_
          refine zw_i2l 143 rfl dX10_mix_142 (by omega) ?_
          refine zw_ldc2_w 146 rfl dX10_mix_143 kX10_303 ?_
          refine zw_cSi2 149 rfl dX10_mix_146 kX10_mix_305 (Nat.le_of_ble_eq_true rfl) (c_nearest (by omega) (by omega)) ?_
          rw [hN']
          refine zw_iast 150 rfl dX10_mix_149 (by first | assumption | exact zx_o0 | exact zx_o _ _ _ rfl) (by omega) (by omega) ?_
          refine zw_iinc 153 rfl dX10_mix_150 (Nat.le_of_ble_eq_true rfl) rfl rfl ?_
          refine zw_goto 89 dX10_mix_153 (by decide) ?_
          refine zw_drop 7 ?_
          exact ih (i + 1) _ (by omega) (by omega) hl.put
    refine zw_aload_n 66 rfl dX10_mix_65 rfl ?_
    refine zw_getr 69 rfl dX10_mix_66 fl_X10_16 (by first | assumption | exact zx_o0 | exact zx_o _ _ _ rfl) (by first | assumption | exact zx_f0 _ _ rfl | exact zx_f _ _ _ rfl) ?_
    refine zw_aload_n 70 rfl dX10_mix_69 rfl ?_
    refine zw_getr 73 rfl dX10_mix_70 fl_X10_11 (by first | assumption | exact zx_o0 | exact zx_o _ _ _ rfl) (by first | assumption | exact zx_f0 _ _ rfl | exact zx_f _ _ _ rfl) ?_
    refine zw_iload_n 74 rfl dX10_mix_73 rfl ?_
    refine zw_aald 75 rfl dX10_mix_74 (by first | assumption | exact zx_o0 | exact zx_o _ _ _ rfl) (by omega) (by omega) (by first | assumption | exact zx_p6r (by omega)) ?_
    refine zw_cVv1 78 rfl dX10_mix_75 kX10_mix_137 (Nat.le_of_ble_eq_true rfl) (by first | assumption | exact zx_o0 | exact zx_o _ _ _ rfl) (c_become zx_work (zx_p6 (by omega)) (by simp only [zpa]; omega) (by simp only [zpa]; omega)) ?_
    refine zw_aload_n 79 rfl dX10_mix_78 rfl ?_
    refine zw_getr 82 rfl dX10_mix_79 fl_X10_11 (by first | assumption | exact zx_o0 | exact zx_o _ _ _ rfl) (by first | assumption | exact zx_f0 _ _ rfl | exact zx_f _ _ _ rfl) ?_
    refine zw_iload_n 83 rfl dX10_mix_82 rfl ?_
    refine zw_aald 84 rfl dX10_mix_83 (by first | assumption | exact zx_o0 | exact zx_o _ _ _ rfl) (by omega) (by omega) (by first | assumption | exact zx_p6r (by omega)) ?_
    refine zw_astore 86 rfl dX10_mix_84 (Nat.le_of_ble_eq_true rfl) rfl ?_
    refine zw_iconst 87 rfl dX10_mix_86 ?_
    refine zw_istore 89 rfl dX10_mix_87 (Nat.le_of_ble_eq_true rfl) rfl ?_
    exact loop (((A.1 of.toNat).1 * (A.1 of.toNat).2.1).toNat + 1) 0 _ (by omega) (by omega) (hst N)
  have J : ∀ v : Int, v = (if aPl to then if aTold A of then if aTold A ot then if 0 ≤ m ∧ m ≤ 100 then if aLike A of ot then 0 else 5 else 2 else 1 else 1 else 1) → zW G M_X10_mix (xQ B (sp_mix A to of ot m)) 57 [some (.ref B), some (vi to), some (vi of), some (vi ot), some (vi m), none, none, none] [vi v, .ref B] (zxS B, σ, τ) := by
    intro v hv

    refine zw_cVi1 60 rfl dX10_mix_57 kX10_mix_105 (Nat.le_of_ble_eq_true rfl) (by first | assumption | exact zx_o0 | exact zx_o _ _ _ rfl) (c_refused (by rw [hv]; (repeat' split) <;> omega)) ?_
    refine zw_if_eqB 65 63 rfl dX10_mix_60 (by decide) (fun h_60 => ?_) (fun h_60 => ?_)
    · have hc1 : aPl to := Decidable.byContradiction fun q => by rw [if_neg q] at hv; (try split at hv) <;> omega
      rw [if_pos hc1] at hv
      have hc2 : aTold A of := Decidable.byContradiction fun q => by rw [if_neg q] at hv; (try split at hv) <;> omega
      rw [if_pos hc2] at hv
      have hc3 : aTold A ot := Decidable.byContradiction fun q => by rw [if_neg q] at hv; (try split at hv) <;> omega
      rw [if_pos hc3] at hv
      have hc4 : 0 ≤ m ∧ m ≤ 100 := Decidable.byContradiction fun q => by rw [if_neg q] at hv; (try split at hv) <;> omega
      rw [if_pos hc4] at hv
      have hc5 : aLike A of ot := Decidable.byContradiction fun q => by rw [if_neg q] at hv; (try split at hv) <;> omega
      rw [if_pos hc5] at hv
      subst hv
      exact body hc1 hc2 hc3 hc4 hc5
    · refine zw_iconst 64 rfl dX10_mix_63 ?_
      subst hv
      exact zw_zret (st := []) dX10_mix_64 rfl (by omega) (xRef h h_60 (by (repeat' split) <;> omega))
  refine zw_aload_n 1 rfl dX10_mix_0 rfl ?_
  refine zw_iload_n 2 rfl dX10_mix_1 rfl ?_
  refine zw_cSi1 5 rfl dX10_mix_2 kX10_mix_191 (Nat.le_of_ble_eq_true rfl) (c_isPlace hto) ?_
  refine zw_if_eqB 24 8 rfl dX10_mix_5 (by decide) (fun h_5 => ?_) (fun h_5 => ?_)
  · refine zw_iconst 25 rfl dX10_mix_24 ?_
    refine zw_goto 57 dX10_mix_25 (by decide) ?_
    exact J _ (by first | (simp only [if_neg h_5]; done) | (simp only [if_pos h_5, if_pos h_13, if_pos h_21, if_pos h_36]; rw [if_pos h_49.2.2]) | (simp only [if_pos h_5, if_pos h_13, if_pos h_21, if_pos h_36]; rw [if_neg (fun q => h_49 ⟨h_13, h_21, q⟩)]))
  · refine zw_aload_n 9 rfl dX10_mix_8 rfl ?_
    refine zw_iload_n 10 rfl dX10_mix_9 rfl ?_
    refine zw_cVi1 13 rfl dX10_mix_10 kX10_mix_145 (Nat.le_of_ble_eq_true rfl) (by first | assumption | exact zx_o0 | exact zx_o _ _ _ rfl) (c_told h.p hof) ?_
    refine zw_if_eqB 24 16 rfl dX10_mix_13 (by decide) (fun h_13 => ?_) (fun h_13 => ?_)
    · refine zw_iconst 25 rfl dX10_mix_24 ?_
      refine zw_goto 57 dX10_mix_25 (by decide) ?_
      exact J _ (by first | (simp only [if_pos h_5, if_neg h_13]; done) | (simp only [if_pos h_5, if_pos h_13, if_pos h_21, if_pos h_36]; rw [if_pos h_49.2.2]) | (simp only [if_pos h_5, if_pos h_13, if_pos h_21, if_pos h_36]; rw [if_neg (fun q => h_49 ⟨h_13, h_21, q⟩)]))
    · refine zw_aload_n 17 rfl dX10_mix_16 rfl ?_
      refine zw_iload_n 18 rfl dX10_mix_17 rfl ?_
      refine zw_cVi1 21 rfl dX10_mix_18 kX10_mix_145 (Nat.le_of_ble_eq_true rfl) (by first | assumption | exact zx_o0 | exact zx_o _ _ _ rfl) (c_told h.p hot) ?_
      refine zw_if_neB 28 24 rfl dX10_mix_21 (by decide) (fun h_21 => ?_) (fun h_21 => ?_)
      · refine zw_iload 30 rfl dX10_mix_28 rfl ?_
        refine zw_iconst 31 rfl dX10_mix_30 ?_
        refine zw_bipush 33 rfl dX10_mix_31 rfl ?_
        refine zw_cSi3 36 rfl dX10_mix_33 kX10_mix_101 (Nat.le_of_ble_eq_true rfl) (c_within (by omega) (by omega) (by omega)) ?_
        refine zw_if_neB 43 39 rfl dX10_mix_36 (by decide) (fun h_36 => ?_) (fun h_36 => ?_)
        · refine zw_aload_n 44 rfl dX10_mix_43 rfl ?_
          refine zw_iload_n 45 rfl dX10_mix_44 rfl ?_
          refine zw_iload_n 46 rfl dX10_mix_45 rfl ?_
          refine zw_cVi2 49 rfl dX10_mix_46 kX10_mix_231 (Nat.le_of_ble_eq_true rfl) (by first | assumption | exact zx_o0 | exact zx_o _ _ _ rfl) (c_alike h.p hof hot) ?_
          refine zw_if_neB 56 52 rfl dX10_mix_49 (by decide) (fun h_49 => ?_) (fun h_49 => ?_)
          · refine zw_iconst 57 rfl dX10_mix_56 ?_
            exact J _ (by first | (simp only [if_pos h_5, if_pos h_13, if_pos h_21, if_pos h_36, if_pos h_49]; done) | (simp only [if_pos h_5, if_pos h_13, if_pos h_21, if_pos h_36]; rw [if_pos h_49.2.2]) | (simp only [if_pos h_5, if_pos h_13, if_pos h_21, if_pos h_36]; rw [if_neg (fun q => h_49 ⟨h_13, h_21, q⟩)]))
          · refine zw_iconst 53 rfl dX10_mix_52 ?_
            refine zw_goto 57 dX10_mix_53 (by decide) ?_
            exact J _ (by first | (simp only [if_pos h_5, if_pos h_13, if_pos h_21, if_pos h_36, if_neg h_49]; done) | (simp only [if_pos h_5, if_pos h_13, if_pos h_21, if_pos h_36]; rw [if_pos h_49.2.2]) | (simp only [if_pos h_5, if_pos h_13, if_pos h_21, if_pos h_36]; rw [if_neg (fun q => h_49 ⟨h_13, h_21, q⟩)]))
        · refine zw_iconst 40 rfl dX10_mix_39 ?_
          refine zw_goto 57 dX10_mix_40 (by decide) ?_
          exact J _ (by first | (simp only [if_pos h_5, if_pos h_13, if_pos h_21, if_neg h_36]; done) | (simp only [if_pos h_5, if_pos h_13, if_pos h_21, if_pos h_36]; rw [if_pos h_49.2.2]) | (simp only [if_pos h_5, if_pos h_13, if_pos h_21, if_pos h_36]; rw [if_neg (fun q => h_49 ⟨h_13, h_21, q⟩)]))
      · refine zw_iconst 25 rfl dX10_mix_24 ?_
        refine zw_goto 57 dX10_mix_25 (by decide) ?_
        exact J _ (by first | (simp only [if_pos h_5, if_pos h_13, if_neg h_21]; done) | (simp only [if_pos h_5, if_pos h_13, if_pos h_21, if_pos h_36]; rw [if_pos h_49.2.2]) | (simp only [if_pos h_5, if_pos h_13, if_pos h_21, if_pos h_36]; rw [if_neg (fun q => h_49 ⟨h_13, h_21, q⟩)]))
def aAbv (p q : zPc) : zPc := (p.1, p.2.1, fun x y => zhold 255 (128 + p.2.2 x y - q.2.2 x y))
def aHeld (p q : zPc) : Int := zwin 0 p.1 0 p.2.1 (fun x y m => m + if 0 ≤ 128 + p.2.2 x y - q.2.2 x y ∧ 128 + p.2.2 x y - q.2.2 x y ≤ 255 then 0 else 1) 0
def sp_above (A : zA) (to of ot : Int) : Int × zA := aAns (if aPl to then if aTold A of then if aTold A ot then if aLike A of ot then 0 else 5 else 1 else 1 else 1) (-1) A (aHeld (A.1 of.toNat) (A.1 ot.toNat), aAct A to.toNat (aAbv (A.1 of.toNat) (A.1 ot.toNat)))
theorem X_above {G : zG} {B : Nat} {σ τ : zSt} {A : zA} {to of ot : Int} (h : zxR B σ τ A) (hto : -2147483648 ≤ to ∧ to ≤ 2147483647) (hof : -2147483648 ≤ of ∧ of ≤ 2147483647) (hot : -2147483648 ≤ ot ∧ ot ≤ 2147483647) : zC G M_X10_above [.ref B, vi to, vi of, vi ot] (zxS B, σ, τ) (xQ B (sp_above A to of ot)) := by
  refine zC_of 4 rfl (Nat.le_of_ble_eq_true rfl) ?_
  have body : aPl to → aTold A of → aTold A ot → aLike A of ot → zW G M_X10_above (xQ B (sp_above A to of ot)) 50 [some (.ref B), some (vi to), some (vi of), some (vi ot), none, none, none, none] [] (zxS B, zu σ B 17 0, τ) := by
    intro hc1 hc2 hc2' hlk
    have hwh := (h.p of.toNat (by omega)).wh hc2.2
    have hcn := zz_wh (w := (A.1 of.toNat).1) (h := (A.1 of.toNat).2.1) (by omega) (by omega)
    have hdr := ((h.p of.toNat (by omega)).2.2 hc2.2).2.2
    generalize hσ1 : zu σ B 17 0 = σ1
    have h17 : σ1 B 17 = 0 := by rw [← hσ1]; exact zu_eq _ _ _ _
    have hs1 : xScr B σ σ1 := by rw [← hσ1]; exact xScr.z
    have hp1 := hs1.P h.p of.toNat (by omega)
    have hsd := hp1.sd hc2.2
    rw [(hp1.wh hc2.2).1.1, (hp1.wh hc2.2).1.2] at hsd
    unfold zSd at hsd
    have hst := fun (N : Nat → Int) => xDI.start (B := B) (N := N) hp1 hc2.2
    have hOf := (hp1.2.2 hc2.2).2.2
    generalize σ1 (zpa B of.toNat + 1) = O at hsd hst hOf
    have hp2 := hs1.P h.p ot.toNat (by omega)
    have hsd2 := hp2.sd hc2'.2
    rw [(hp2.wh hc2'.2).1.1, (hp2.wh hc2'.2).1.2, ← hlk.1, ← hlk.2] at hsd2
    unfold zSd at hsd2
    have hOf2 := (hp2.2.2 hc2'.2).2.2
    rw [← hlk.1, ← hlk.2] at hOf2
    have hO2 : ∀ σs, xScr B σ1 σs → σs (zpa B ot.toNat + 1) = σ1 (zpa B ot.toNat + 1) := fun σs q => q.2 _ (by simp only [zpa]; omega) (by simp only [zpa]; omega) (by simp only [zpa]; omega)
    generalize σ1 (zpa B ot.toNat + 1) = O2 at hsd2 hOf2 hO2
    generalize hN : (fun d : Nat => zhold 255 (128 + O d - O2 d)) = N
    have hN' : ∀ d : Nat, zhold 255 (128 + O d - O2 d) = N d := fun d => by rw [← hN]
    have hcnt : zfold (fun d (c : Int) => c + if 0 ≤ 128 + O d - O2 d ∧ 128 + O d - O2 d ≤ 255 then 0 else 1) ((A.1 of.toNat).1 * (A.1 of.toNat).2.1).toNat 0 = aHeld (A.1 of.toNat) (A.1 ot.toNat) := by
      unfold aHeld
      refine zfold_win (by omega) (by omega) (fun x y hx hy c => ?_) 0
      rw [(hOf x y hx hy).1, (hOf2 x y hx hy).1]
    generalize hC : (fun (d : Nat) (c : Int) => c + if 0 ≤ 128 + O d - O2 d ∧ 128 + O d - O2 d ≤ 255 then (0 : Int) else 1) = C at hcnt
    have hC' : ∀ d c, C d c = c + if 0 ≤ 128 + O d - O2 d ∧ 128 + O d - O2 d ≤ 255 then (0 : Int) else 1 := fun d c => by rw [← hC]
    have loop : ∀ (fu i : Nat) (σs : zSt), (i : Int) ≤ (A.1 of.toNat).1 * (A.1 of.toNat).2.1 → (A.1 of.toNat).1 * (A.1 of.toNat).2.1 - i < fu → xDI B σ1 (A.1 of.toNat).1 (A.1 of.toNat).2.1 N O i σs → zW G M_X10_above (xQ B (sp_above A to of ot)) 77 [some (.ref B), some (vi to), some (vi of), some (vi ot), some (.ref (zpa B ot.toNat)), some (vi (zfold C i 0)), some (vi i), none] [] (zxS B, σs, τ) := by
      intro fu
      induction fu with
      | zero => intro i σs h1 h2; omega
      | succ fu ih =>
        intro i σs h1 h2 hl
        have hw1 := hl.2.2.1
        have hw2 := hl.2.2.2.1
        have hpw : zPW σs (B + 2) := by unfold zPW; omega
        have hO : (i : Int) < (A.1 of.toNat).1 * (A.1 of.toNat).2.1 → σs (B + 3) i = O i := hl.2.2.2.2.2 i (Nat.le_refl _)
        have hs2 := hs1.tr hl.1

        have hq6 := (zx_p6 (B := B) (i := ot.toNat) (by omega))
        refine zw_iload 79 rfl dX10_above_77 rfl ?_
        refine zw_aload_n 80 rfl dX10_above_79 rfl ?_
        refine zw_getr 83 rfl dX10_above_80 fl_X10_16 (by first | assumption | exact zx_o0 | exact zx_o _ _ _ rfl) (by first | assumption | exact zx_f0 _ _ rfl | exact zx_f _ _ _ rfl) ?_
        refine zw_cVi0 86 rfl dX10_above_83 kX10_above_212 (Nat.le_of_ble_eq_true rfl) (by first | assumption | exact zx_o0 | exact zx_o _ _ _ rfl) (c_count zx_work) ?_
        rw [hw1, hw2]
        refine zw_icmp_ge 153 89 rfl dX10_above_86 (by decide) (by omega) (by omega) (fun h_86 => ?_) (fun h_86 => ?_)
        · have hpic : xrPic σs (B + 2) (aAbv (A.1 of.toNat) (A.1 ot.toNat)) := hl.pic (by omega) (by omega) (by omega) (fun x y hx hy => by
            refine ⟨?_, zhold_r (by omega)⟩
            rw [← hN', (hOf x y hx hy).1, (hOf2 x y hx hy).1])
          refine zw_aload_n 154 rfl dX10_above_153 rfl ?_
          refine zw_iload_n 155 rfl dX10_above_154 rfl ?_
          refine zw_cVr1 158 rfl dX10_above_155 kX10_above_188 (Nat.le_of_ble_eq_true rfl) (by first | assumption | exact zx_o0 | exact zx_o _ _ _ rfl) (c_actOn (hs2.P h.p) (hs2.H h.hs) hpic hc1) ?_
          rintro _ _ ⟨rfl, σ2, rfl, hA⟩
          refine zw_iload 160 rfl dX10_above_158 rfl ?_
          exact zw_iret (st := []) dX10_above_160 rfl (xGood (σ := σ) (τ := τ) (by rw [if_pos hc1, if_pos hc2, if_pos hc2', if_pos hlk]) (by rw [show i = ((A.1 of.toNat).1 * (A.1 of.toNat).2.1).toNat by omega]; exact hcnt) (h.act hs2 rfl (hl.2.1.trans h17) hA (by omega)))
        · have r1 := hsd i (by omega)
          have r2 := hsd2 i (by omega)
          refine zw_sipush 92 rfl dX10_above_89 rfl ?_
          refine zw_aload_n 93 rfl dX10_above_92 rfl ?_
          refine zw_getr 96 rfl dX10_above_93 fl_X10_16 (by first | assumption | exact zx_o0 | exact zx_o _ _ _ rfl) (by first | assumption | exact zx_f0 _ _ rfl | exact zx_f _ _ _ rfl) ?_
          refine zw_getr 99 rfl dX10_above_96 fl_X10_198 (by first | assumption | exact zx_o0 | exact zx_o _ _ _ rfl) (by first | exact hq6.2.1 | exact zx_f _ _ _ rfl) ?_
          refine zw_iload 101 rfl dX10_above_99 rfl ?_
          refine zw_iald 102 rfl dX10_above_101 (by first | assumption | exact zx_o0 | exact zx_o _ _ _ rfl) (by omega) (by omega) ?_
          rw [Int.toNat_natCast, hO (by omega)]
          refine zw_iadd 103 rfl dX10_above_102 ?_
          refine zw_aload 105 rfl dX10_above_103 rfl ?_
          refine zw_getr 108 rfl dX10_above_105 fl_X10_198 hq6.1 (by first | exact hq6.2.1 | exact zx_f _ _ _ rfl) ?_
          refine zw_iload 110 rfl dX10_above_108 rfl ?_
          refine zw_iald 111 rfl dX10_above_110 hq6.2.2.1 (by omega) (by omega) ?_
          rw [Int.toNat_natCast, hO2 σs hl.1]
          refine zw_isub 112 rfl dX10_above_111 ?_
          refine zw_istore 114 rfl dX10_above_112 (Nat.le_of_ble_eq_true rfl) rfl ?_
          refine zw_aload_n 115 rfl dX10_above_114 rfl ?_
          refine zw_getr 118 rfl dX10_above_115 fl_X10_16 (by first | assumption | exact zx_o0 | exact zx_o _ _ _ rfl) (by first | assumption | exact zx_f0 _ _ rfl | exact zx_f _ _ _ rfl) ?_
          refine zw_getr 121 rfl dX10_above_118 fl_X10_198 (by first | assumption | exact zx_o0 | exact zx_o _ _ _ rfl) (by first | exact hq6.2.1 | exact zx_f _ _ _ rfl) ?_
          refine zw_iload 123 rfl dX10_above_121 rfl ?_
          refine zw_iload 125 rfl dX10_above_123 rfl ?_
          refine zw_cSi1 128 rfl dX10_above_125 kX10_above_216 (Nat.le_of_ble_eq_true rfl) (c_held (by omega)) ?_
          rw [hN']
          refine zw_iast 129 rfl dX10_above_128 (by first | assumption | exact zx_o0 | exact zx_o _ _ _ rfl) (by omega) (by omega) ?_
          refine zw_iload 131 rfl dX10_above_129 rfl ?_
          refine zw_iload 133 rfl dX10_above_131 rfl ?_
          refine zw_cSi1 136 rfl dX10_above_133 kX10_above_178 (Nat.le_of_ble_eq_true rfl) (c_isShade (by omega)) ?_
          refine zw_if_eqB 143 139 rfl dX10_above_136 (by decide) (fun h_136 => ?_) (fun h_136 => ?_)
          · refine zw_iconst 144 rfl dX10_above_143 ?_
            refine zw_iadd 145 rfl dX10_above_144 ?_
            refine zw_istore 147 rfl dX10_above_145 (Nat.le_of_ble_eq_true rfl) rfl ?_
            refine zw_iinc 150 rfl dX10_above_147 (Nat.le_of_ble_eq_true rfl) rfl rfl ?_
            refine zw_goto 77 dX10_above_150 (by decide) ?_
            refine zw_drop 7 ?_
            have ih := ih (i + 1) _ (by omega) (by omega) hl.put
            simp only [zfold] at ih
            first | (rw [hC', if_pos h_136] at ih) | (rw [hC', if_neg h_136] at ih)
            exact ih
          · refine zw_iconst 140 rfl dX10_above_139 ?_
            refine zw_goto 144 dX10_above_140 (by decide) ?_
            refine zw_iadd 145 rfl dX10_above_144 ?_
            refine zw_istore 147 rfl dX10_above_145 (Nat.le_of_ble_eq_true rfl) rfl ?_
            refine zw_iinc 150 rfl dX10_above_147 (Nat.le_of_ble_eq_true rfl) rfl rfl ?_
            refine zw_goto 77 dX10_above_150 (by decide) ?_
            refine zw_drop 7 ?_
            have ih := ih (i + 1) _ (by omega) (by omega) hl.put
            simp only [zfold] at ih
            first | (rw [hC', if_pos h_136] at ih) | (rw [hC', if_neg h_136] at ih)
            exact ih
    refine zw_aload_n 51 rfl dX10_above_50 rfl ?_
    refine zw_getr 54 rfl dX10_above_51 fl_X10_16 (by first | assumption | exact zx_o0 | exact zx_o _ _ _ rfl) (by first | assumption | exact zx_f0 _ _ rfl | exact zx_f _ _ _ rfl) ?_
    refine zw_aload_n 55 rfl dX10_above_54 rfl ?_
    refine zw_getr 58 rfl dX10_above_55 fl_X10_11 (by first | assumption | exact zx_o0 | exact zx_o _ _ _ rfl) (by first | assumption | exact zx_f0 _ _ rfl | exact zx_f _ _ _ rfl) ?_
    refine zw_iload_n 59 rfl dX10_above_58 rfl ?_
    refine zw_aald 60 rfl dX10_above_59 (by first | assumption | exact zx_o0 | exact zx_o _ _ _ rfl) (by omega) (by omega) (by first | assumption | exact zx_p6r (by omega)) ?_
    refine zw_cVv1 63 rfl dX10_above_60 kX10_above_137 (Nat.le_of_ble_eq_true rfl) (by first | assumption | exact zx_o0 | exact zx_o _ _ _ rfl) (c_become zx_work (zx_p6 (by omega)) (by simp only [zpa]; omega) (by simp only [zpa]; omega)) ?_
    refine zw_aload_n 64 rfl dX10_above_63 rfl ?_
    refine zw_getr 67 rfl dX10_above_64 fl_X10_11 (by first | assumption | exact zx_o0 | exact zx_o _ _ _ rfl) (by first | assumption | exact zx_f0 _ _ rfl | exact zx_f _ _ _ rfl) ?_
    refine zw_iload_n 68 rfl dX10_above_67 rfl ?_
    refine zw_aald 69 rfl dX10_above_68 (by first | assumption | exact zx_o0 | exact zx_o _ _ _ rfl) (by omega) (by omega) (by first | assumption | exact zx_p6r (by omega)) ?_
    refine zw_astore 71 rfl dX10_above_69 (Nat.le_of_ble_eq_true rfl) rfl ?_
    refine zw_iconst 72 rfl dX10_above_71 ?_
    refine zw_istore 74 rfl dX10_above_72 (Nat.le_of_ble_eq_true rfl) rfl ?_
    refine zw_iconst 75 rfl dX10_above_74 ?_
    refine zw_istore 77 rfl dX10_above_75 (Nat.le_of_ble_eq_true rfl) rfl ?_
    exact loop (((A.1 of.toNat).1 * (A.1 of.toNat).2.1).toNat + 1) 0 _ (by omega) (by omega) (hst N)
  have J : ∀ v : Int, v = (if aPl to then if aTold A of then if aTold A ot then if aLike A of ot then 0 else 5 else 1 else 1 else 1) → zW G M_X10_above (xQ B (sp_above A to of ot)) 42 [some (.ref B), some (vi to), some (vi of), some (vi ot), none, none, none, none] [vi v, .ref B] (zxS B, σ, τ) := by
    intro v hv

    refine zw_cVi1 45 rfl dX10_above_42 kX10_above_105 (Nat.le_of_ble_eq_true rfl) (by first | assumption | exact zx_o0 | exact zx_o _ _ _ rfl) (c_refused (by rw [hv]; (repeat' split) <;> omega)) ?_
    refine zw_if_eqB 50 48 rfl dX10_above_45 (by decide) (fun h_45 => ?_) (fun h_45 => ?_)
    · have hc1 : aPl to := Decidable.byContradiction fun q => by rw [if_neg q] at hv; (try split at hv) <;> omega
      rw [if_pos hc1] at hv
      have hc2 : aTold A of := Decidable.byContradiction fun q => by rw [if_neg q] at hv; (try split at hv) <;> omega
      rw [if_pos hc2] at hv
      have hc3 : aTold A ot := Decidable.byContradiction fun q => by rw [if_neg q] at hv; (try split at hv) <;> omega
      rw [if_pos hc3] at hv
      have hc4 : aLike A of ot := Decidable.byContradiction fun q => by rw [if_neg q] at hv; (try split at hv) <;> omega
      rw [if_pos hc4] at hv
      subst hv
      exact body hc1 hc2 hc3 hc4
    · refine zw_iconst 49 rfl dX10_above_48 ?_
      subst hv
      exact zw_iret (st := []) dX10_above_49 rfl (xRef h h_45 (by (repeat' split) <;> omega))
  refine zw_aload_n 1 rfl dX10_above_0 rfl ?_
  refine zw_iload_n 2 rfl dX10_above_1 rfl ?_
  refine zw_cSi1 5 rfl dX10_above_2 kX10_above_191 (Nat.le_of_ble_eq_true rfl) (c_isPlace hto) ?_
  refine zw_if_eqB 24 8 rfl dX10_above_5 (by decide) (fun h_5 => ?_) (fun h_5 => ?_)
  · refine zw_iconst 25 rfl dX10_above_24 ?_
    refine zw_goto 42 dX10_above_25 (by decide) ?_
    exact J _ (by first | (simp only [if_neg h_5]; done) | (simp only [if_pos h_5, if_pos h_13, if_pos h_21]; rw [if_pos h_34.2.2]) | (simp only [if_pos h_5, if_pos h_13, if_pos h_21]; rw [if_neg (fun q => h_34 ⟨h_13, h_21, q⟩)]))
  · refine zw_aload_n 9 rfl dX10_above_8 rfl ?_
    refine zw_iload_n 10 rfl dX10_above_9 rfl ?_
    refine zw_cVi1 13 rfl dX10_above_10 kX10_above_145 (Nat.le_of_ble_eq_true rfl) (by first | assumption | exact zx_o0 | exact zx_o _ _ _ rfl) (c_told h.p hof) ?_
    refine zw_if_eqB 24 16 rfl dX10_above_13 (by decide) (fun h_13 => ?_) (fun h_13 => ?_)
    · refine zw_iconst 25 rfl dX10_above_24 ?_
      refine zw_goto 42 dX10_above_25 (by decide) ?_
      exact J _ (by first | (simp only [if_pos h_5, if_neg h_13]; done) | (simp only [if_pos h_5, if_pos h_13, if_pos h_21]; rw [if_pos h_34.2.2]) | (simp only [if_pos h_5, if_pos h_13, if_pos h_21]; rw [if_neg (fun q => h_34 ⟨h_13, h_21, q⟩)]))
    · refine zw_aload_n 17 rfl dX10_above_16 rfl ?_
      refine zw_iload_n 18 rfl dX10_above_17 rfl ?_
      refine zw_cVi1 21 rfl dX10_above_18 kX10_above_145 (Nat.le_of_ble_eq_true rfl) (by first | assumption | exact zx_o0 | exact zx_o _ _ _ rfl) (c_told h.p hot) ?_
      refine zw_if_neB 28 24 rfl dX10_above_21 (by decide) (fun h_21 => ?_) (fun h_21 => ?_)
      · refine zw_aload_n 29 rfl dX10_above_28 rfl ?_
        refine zw_iload_n 30 rfl dX10_above_29 rfl ?_
        refine zw_iload_n 31 rfl dX10_above_30 rfl ?_
        refine zw_cVi2 34 rfl dX10_above_31 kX10_above_231 (Nat.le_of_ble_eq_true rfl) (by first | assumption | exact zx_o0 | exact zx_o _ _ _ rfl) (c_alike h.p hof hot) ?_
        refine zw_if_neB 41 37 rfl dX10_above_34 (by decide) (fun h_34 => ?_) (fun h_34 => ?_)
        · refine zw_iconst 42 rfl dX10_above_41 ?_
          exact J _ (by first | (simp only [if_pos h_5, if_pos h_13, if_pos h_21, if_pos h_34]; done) | (simp only [if_pos h_5, if_pos h_13, if_pos h_21]; rw [if_pos h_34.2.2]) | (simp only [if_pos h_5, if_pos h_13, if_pos h_21]; rw [if_neg (fun q => h_34 ⟨h_13, h_21, q⟩)]))
        · refine zw_iconst 38 rfl dX10_above_37 ?_
          refine zw_goto 42 dX10_above_38 (by decide) ?_
          exact J _ (by first | (simp only [if_pos h_5, if_pos h_13, if_pos h_21, if_neg h_34]; done) | (simp only [if_pos h_5, if_pos h_13, if_pos h_21]; rw [if_pos h_34.2.2]) | (simp only [if_pos h_5, if_pos h_13, if_pos h_21]; rw [if_neg (fun q => h_34 ⟨h_13, h_21, q⟩)]))
      · refine zw_iconst 25 rfl dX10_above_24 ?_
        refine zw_goto 42 dX10_above_25 (by decide) ?_
        exact J _ (by first | (simp only [if_pos h_5, if_pos h_13, if_neg h_21]; done) | (simp only [if_pos h_5, if_pos h_13, if_pos h_21]; rw [if_pos h_34.2.2]) | (simp only [if_pos h_5, if_pos h_13, if_pos h_21]; rw [if_neg (fun q => h_34 ⟨h_13, h_21, q⟩)]))
