/-! ===== noise ===== -/
theorem zdraw_r {s : Int} (hs : 0 ≤ s ∧ s ≤ 65536) : ∀ n, 0 ≤ zdraw s n ∧ zdraw s n ≤ 65536
  | 0 => hs
  | n + 1 => by have := zdraw_r hs n; simp only [zdraw]; omega
theorem X_noise {G : zG} {B : Nat} {σ τ : zSt} {A : zA} {of s n : Int} (h : zxR B σ τ A) (hof : -2147483648 ≤ of ∧ of ≤ 2147483647) (hs : -2147483648 ≤ s ∧ s ≤ 2147483647) (hn : -2147483648 ≤ n ∧ n ≤ 2147483647) : zC G M_X10_noise [.ref B, vi of, vi s, vi n] (zxS B, σ, τ) (xQ B (sp_noise A of s n)) := by
  refine zC_of 3 rfl (Nat.le_of_ble_eq_true rfl) ?_
  have body : aTold A of → (0 ≤ s ∧ s ≤ 65536) → (0 ≤ n ∧ n ≤ 127) → zW G M_X10_noise (xQ B (sp_noise A of s n)) 46 [some (.ref B), some (vi of), some (vi s), some (vi n), none, none, none] [] (zxS B, zu σ B 17 0, τ) := by
    intro hc2 hc3 hc4
    have hwh := (h.p of.toNat (by omega)).wh hc2.2
    have hcn := zz_wh (w := (A.1 of.toNat).1) (h := (A.1 of.toNat).2.1) (by omega) (by omega)
    have hdr := ((h.p of.toNat (by omega)).2.2 hc2.2).2.2
    generalize hσ1 : zu σ B 17 0 = σ1
    have h17 : σ1 B 17 = 0 := by rw [← hσ1]; exact zu_eq _ _ _ _
    have hs1 : xScr B σ σ1 := by rw [← hσ1]; exact xScr.z
    have hp1 := hs1.P h.p of.toNat (by omega)
    have hsd := hp1.sd hc2.2
    rw [(hp1.wh hc2.2).1.1, (hp1.wh hc2.2).1.2] at hsd
    unfold zSd at hsd
    have hst := fun (N : Nat → Int) => xDI.start (B := B) (N := N) hp1 hc2.2
    have hOf := (hp1.2.2 hc2.2).2.2
    generalize σ1 (zpa B of.toNat + 1) = O at hsd hst hOf
    generalize hN : (fun d : Nat => zhold 255 (O d + zdraw s (d + 1) % (2 * n + 1) - n)) = N
    have hN' : ∀ d : Nat, zhold 255 (O d + (75 * zdraw s d + 74) % 65537 % (2 * n + 1) - n) = N d := fun d => by rw [← hN]; rfl
    have hdw := zdraw_r hc3
    have loop : ∀ (fu i : Nat) (σs : zSt), (i : Int) ≤ (A.1 of.toNat).1 * (A.1 of.toNat).2.1 → (A.1 of.toNat).1 * (A.1 of.toNat).2.1 - i < fu → xDI B σ1 (A.1 of.toNat).1 (A.1 of.toNat).2.1 N O i σs → zW G M_X10_noise (xQ B (sp_noise A of s n)) 72 [some (.ref B), some (vi of), some (vi s), some (vi n), some (vi (zdraw s i)), some (vi (2 * n + 1)), some (vi i)] [] (zxS B, σs, τ) := by
      intro fu
      induction fu with
      | zero => intro i σs h1 h2; omega
      | succ fu ih =>
        intro i σs h1 h2 hl
        have hw1 := hl.2.2.1
        have hw2 := hl.2.2.2.1
        have hpw : zPW σs (B + 2) := by unfold zPW; omega
        have hO : (i : Int) < (A.1 of.toNat).1 * (A.1 of.toNat).2.1 → σs (B + 3) i = O i := hl.2.2.2.2.2 i (Nat.le_refl _)
        have hs2 := hs1.tr hl.1

        have hdi := hdw i
        have hdi2 := hdw (i + 1)
        simp only [zdraw] at hdi2
        have hmd := Int.emod_nonneg ((75 * zdraw s i + 74) % 65537) (show 2 * n + 1 ≠ 0 by omega)
        have hme := Int.emod_lt_of_pos ((75 * zdraw s i + 74) % 65537) (show 0 < 2 * n + 1 by omega)
        refine zw_iload 74 rfl dX10_noise_72 rfl ?_
        refine zw_aload_n 75 rfl dX10_noise_74 rfl ?_
        refine zw_getr 78 rfl dX10_noise_75 fl_X10_16 (by first | assumption | exact zx_o0 | exact zx_o _ _ _ rfl) (by first | assumption | exact zx_f0 _ _ rfl | exact zx_f _ _ _ rfl) ?_
        refine zw_cVi0 81 rfl dX10_noise_78 kX10_noise_212 (Nat.le_of_ble_eq_true rfl) (by first | assumption | exact zx_o0 | exact zx_o _ _ _ rfl) (c_count zx_work) ?_
        rw [hw1, hw2]
        refine zw_icmp_ge 134 84 rfl dX10_noise_81 (by decide) (by omega) (by omega) (fun h_81 => ?_) (fun h_81 => ?_)
        · have hpic : xrPic σs (B + 2) (aNoise (A.1 of.toNat) s n) := hl.pic (by omega) (by omega) (by omega) (fun x y hx hy => by
            have i1 := zz_ix hx hy (by omega) (by omega)
            refine ⟨?_, zhold_r (by omega)⟩
            rw [← hN', (hOf x y hx hy).1]
            show zhold 255 (_ + zdraw s ((y * (A.1 of.toNat).1 + x).toNat + 1) % _ - n) = zhold 255 (_ + zdraw s (y * (A.1 of.toNat).1 + x + 1).toNat % _ - n)
            rw [show (y * (A.1 of.toNat).1 + x).toNat + 1 = (y * (A.1 of.toNat).1 + x + 1).toNat by omega])
          refine zw_aload_n 135 rfl dX10_noise_134 rfl ?_
          refine zw_iload_n 136 rfl dX10_noise_135 rfl ?_
          refine zw_iload_n 137 rfl dX10_noise_136 rfl ?_
          refine zw_cVr2 140 rfl dX10_noise_137 kX10_noise_220 (Nat.le_of_ble_eq_true rfl) (by first | assumption | exact zx_o0 | exact zx_o _ _ _ rfl) (c_actCO (hs2.P h.p) (hs2.H h.hs) hpic hc2.1 hc2.1 hc2.2 rfl rfl) ?_
          rintro _ _ ⟨rfl, σ2, rfl, hA⟩
          exact zw_iret (st := []) dX10_noise_140 rfl (xGood (σ := σ) (τ := τ) (by rw [if_pos hc2, if_pos hc3, if_pos hc4]) rfl (h.act hs2 rfl (hl.2.1.trans h17) hA (by omega)))
        · refine zw_bipush 86 rfl dX10_noise_84 rfl ?_
          refine zw_iload 88 rfl dX10_noise_86 rfl ?_
          refine zw_imul 89 rfl dX10_noise_88 ?_
          refine zw_bipush 91 rfl dX10_noise_89 rfl ?_
          refine zw_iadd 92 rfl dX10_noise_91 ?_
          refine zw_ldc 94 rfl dX10_noise_92 kX10_215 ?_
          refine zw_irem 95 rfl dX10_noise_94 (by omega) (by omega) ?_
          refine zw_istore 97 rfl dX10_noise_95 (Nat.le_of_ble_eq_true rfl) rfl ?_
          refine zw_aload_n 98 rfl dX10_noise_97 rfl ?_
          refine zw_getr 101 rfl dX10_noise_98 fl_X10_16 (by first | assumption | exact zx_o0 | exact zx_o _ _ _ rfl) (by first | assumption | exact zx_f0 _ _ rfl | exact zx_f _ _ _ rfl) ?_
          refine zw_getr 104 rfl dX10_noise_101 fl_X10_198 (by first | assumption | exact zx_o0 | exact zx_o _ _ _ rfl) (by first | assumption | exact zx_f0 _ _ rfl | exact zx_f _ _ _ rfl) ?_
          refine zw_iload 106 rfl dX10_noise_104 rfl ?_
          refine zw_aload_n 107 rfl dX10_noise_106 rfl ?_
          refine zw_getr 110 rfl dX10_noise_107 fl_X10_16 (by first | assumption | exact zx_o0 | exact zx_o _ _ _ rfl) (by first | assumption | exact zx_f0 _ _ rfl | exact zx_f _ _ _ rfl) ?_
          refine zw_getr 113 rfl dX10_noise_110 fl_X10_198 (by first | assumption | exact zx_o0 | exact zx_o _ _ _ rfl) (by first | assumption | exact zx_f0 _ _ rfl | exact zx_f _ _ _ rfl) ?_
          refine zw_iload 115 rfl dX10_noise_113 rfl ?_
          refine zw_iald 116 rfl dX10_noise_115 (by first | assumption | exact zx_o0 | exact zx_o _ _ _ rfl) (by omega) (by omega) ?_
          rw [Int.toNat_natCast, hO (by omega)]
          refine zw_iload 118 rfl dX10_noise_116 rfl ?_
          refine zw_iload 120 rfl dX10_noise_118 rfl ?_
          refine zw_irem 121 rfl dX10_noise_120 (by omega) (by omega) ?_
          refine zw_iadd 122 rfl dX10_noise_121 ?_
          refine zw_iload_n 123 rfl dX10_noise_122 rfl ?_
          refine zw_isub 124 rfl dX10_noise_123 ?_
          refine zw_cSi1 127 rfl dX10_noise_124 kX10_noise_216 (Nat.le_of_ble_eq_true rfl) (c_held (by have := hsd i (by omega); omega)) ?_
          rw [hN']
          refine zw_iast 128 rfl dX10_noise_127 (by first | assumption | exact zx_o0 | exact zx_o _ _ _ rfl) (by omega) (by omega) ?_
          refine zw_iinc 131 rfl dX10_noise_128 (Nat.le_of_ble_eq_true rfl) rfl rfl ?_
          refine zw_goto 72 dX10_noise_131 (by decide) ?_
          exact ih (i + 1) _ (by omega) (by omega) hl.put
    refine zw_iload_n 47 rfl dX10_noise_46 rfl ?_
    refine zw_istore 49 rfl dX10_noise_47 (Nat.le_of_ble_eq_true rfl) rfl ?_
    refine zw_iconst 50 rfl dX10_noise_49 ?_
    refine zw_iload_n 51 rfl dX10_noise_50 rfl ?_
    refine zw_imul 52 rfl dX10_noise_51 ?_
    refine zw_iconst 53 rfl dX10_noise_52 ?_
    refine zw_iadd 54 rfl dX10_noise_53 ?_
    refine zw_istore 56 rfl dX10_noise_54 (Nat.le_of_ble_eq_true rfl) rfl ?_
    refine zw_aload_n 57 rfl dX10_noise_56 rfl ?_
    refine zw_getr 60 rfl dX10_noise_57 fl_X10_16 (by first | assumption | exact zx_o0 | exact zx_o _ _ _ rfl) (by first | assumption | exact zx_f0 _ _ rfl | exact zx_f _ _ _ rfl) ?_
    refine zw_aload_n 61 rfl dX10_noise_60 rfl ?_
    refine zw_getr 64 rfl dX10_noise_61 fl_X10_11 (by first | assumption | exact zx_o0 | exact zx_o _ _ _ rfl) (by first | assumption | exact zx_f0 _ _ rfl | exact zx_f _ _ _ rfl) ?_
    refine zw_iload_n 65 rfl dX10_noise_64 rfl ?_
    refine zw_aald 66 rfl dX10_noise_65 (by first | assumption | exact zx_o0 | exact zx_o _ _ _ rfl) (by omega) (by omega) (by first | assumption | exact zx_p6r (by omega)) ?_
    refine zw_cVv1 69 rfl dX10_noise_66 kX10_noise_137 (Nat.le_of_ble_eq_true rfl) (by first | assumption | exact zx_o0 | exact zx_o _ _ _ rfl) (c_become zx_work (zx_p6 (by omega)) (by simp only [zpa]; omega) (by simp only [zpa]; omega)) ?_
    refine zw_iconst 70 rfl dX10_noise_69 ?_
    refine zw_istore 72 rfl dX10_noise_70 (Nat.le_of_ble_eq_true rfl) rfl ?_
    have this := loop (((A.1 of.toNat).1 * (A.1 of.toNat).2.1).toNat + 1) 0 _ (by omega) (by omega) (hst N)
    rw [show zdraw s 0 = s from rfl] at this
    exact this
  have J : ∀ v : Int, v = (if aTold A of then if 0 ≤ s ∧ s ≤ 65536 then if 0 ≤ n ∧ n ≤ 127 then 0 else 2 else 2 else 1) → zW G M_X10_noise (xQ B (sp_noise A of s n)) 38 [some (.ref B), some (vi of), some (vi s), some (vi n), none, none, none] [vi v, .ref B] (zxS B, σ, τ) := by
    intro v hv

    refine zw_cVi1 41 rfl dX10_noise_38 kX10_noise_105 (Nat.le_of_ble_eq_true rfl) (by first | assumption | exact zx_o0 | exact zx_o _ _ _ rfl) (c_refused (by rw [hv]; (repeat' split) <;> omega)) ?_
    refine zw_if_eqB 46 44 rfl dX10_noise_41 (by decide) (fun h_41 => ?_) (fun h_41 => ?_)
    · have hc1 : aTold A of := Decidable.byContradiction fun q => by rw [if_neg q] at hv; (try split at hv) <;> omega
      rw [if_pos hc1] at hv
      have hc2 : 0 ≤ s ∧ s ≤ 65536 := Decidable.byContradiction fun q => by rw [if_neg q] at hv; (try split at hv) <;> omega
      rw [if_pos hc2] at hv
      have hc3 : 0 ≤ n ∧ n ≤ 127 := Decidable.byContradiction fun q => by rw [if_neg q] at hv; (try split at hv) <;> omega
      rw [if_pos hc3] at hv
      subst hv
      exact body hc1 hc2 hc3
    · refine zw_iconst 45 rfl dX10_noise_44 ?_
      subst hv
      exact zw_iret (st := []) dX10_noise_45 rfl (xRef h h_41 (by (repeat' split) <;> omega))
  refine zw_aload_n 1 rfl dX10_noise_0 rfl ?_
  refine zw_aload_n 2 rfl dX10_noise_1 rfl ?_
  refine zw_iload_n 3 rfl dX10_noise_2 rfl ?_
  refine zw_cVi1 6 rfl dX10_noise_3 kX10_noise_145 (Nat.le_of_ble_eq_true rfl) (by first | assumption | exact zx_o0 | exact zx_o _ _ _ rfl) (c_told h.p hof) ?_
  refine zw_if_neB 13 9 rfl dX10_noise_6 (by decide) (fun h_6 => ?_) (fun h_6 => ?_)
  · refine zw_iload_n 14 rfl dX10_noise_13 rfl ?_
    refine zw_iconst 15 rfl dX10_noise_14 ?_
    refine zw_ldc 17 rfl dX10_noise_15 kX10_211 ?_
    refine zw_cSi3 20 rfl dX10_noise_17 kX10_noise_101 (Nat.le_of_ble_eq_true rfl) (c_within (by omega) (by omega) (by omega)) ?_
    refine zw_if_eqB 33 23 rfl dX10_noise_20 (by decide) (fun h_20 => ?_) (fun h_20 => ?_)
    · refine zw_iconst 34 rfl dX10_noise_33 ?_
      refine zw_goto 38 dX10_noise_34 (by decide) ?_
      exact J _ (by simp only [if_pos h_6, if_neg h_20])
    · refine zw_iload_n 24 rfl dX10_noise_23 rfl ?_
      refine zw_iconst 25 rfl dX10_noise_24 ?_
      refine zw_bipush 27 rfl dX10_noise_25 rfl ?_
      refine zw_cSi3 30 rfl dX10_noise_27 kX10_noise_101 (Nat.le_of_ble_eq_true rfl) (c_within (by omega) (by omega) (by omega)) ?_
      refine zw_if_neB 37 33 rfl dX10_noise_30 (by decide) (fun h_30 => ?_) (fun h_30 => ?_)
      · refine zw_iconst 38 rfl dX10_noise_37 ?_
        exact J _ (by simp only [if_pos h_6, if_pos h_20, if_pos h_30])
      · refine zw_iconst 34 rfl dX10_noise_33 ?_
        refine zw_goto 38 dX10_noise_34 (by decide) ?_
        exact J _ (by simp only [if_pos h_6, if_pos h_20, if_neg h_30])
  · refine zw_iconst 10 rfl dX10_noise_9 ?_
    refine zw_goto 38 dX10_noise_10 (by decide) ?_
    exact J _ (by simp only [if_neg h_6])
/-! ===== levels ===== -/
def aLev (p : zPc) (m : Int) : zPc := (p.1, p.2.1, fun x y => 255 * (p.2.2 x y * m / 256) / (m - 1))
def sp_levels (A : zA) (to of m : Int) : Int × zA := aAns (if aPl to then if aTold A of then if 2 ≤ m ∧ m ≤ 64 then 0 else 2 else 1 else 1) (-1) A (aOth (aLev (A.1 of.toNat) m) (A.1 of.toNat), aAct A to.toNat (aLev (A.1 of.toNat) m))
theorem zz_lev {v m : Int} (hv : 0 ≤ v ∧ v ≤ 255) (hm : 2 ≤ m ∧ m ≤ 64) : (0 ≤ v * m ∧ v * m ≤ 255 * m) ∧ (0 ≤ v * m / 256 ∧ v * m / 256 ≤ m - 1) ∧ 0 ≤ 255 * (v * m / 256) / (m - 1) ∧ 255 * (v * m / 256) / (m - 1) ≤ 255 := by
  have h1 : 0 ≤ v * m := Int.mul_nonneg hv.1 (by omega)
  have h2 : v * m ≤ 255 * m := Int.mul_le_mul_of_nonneg_right hv.2 (by omega)
  have h3 : v * m / 256 ≤ m - 1 := by omega
  refine ⟨⟨h1, h2⟩, ⟨by omega, h3⟩, Int.ediv_nonneg (by omega) (by omega), Int.ediv_le_of_le_mul (by omega) ?_⟩
  omega
theorem X_levels {G : zG} {B : Nat} {σ τ : zSt} {A : zA} {to of m : Int} (h : zxR B σ τ A) (hto : -2147483648 ≤ to ∧ to ≤ 2147483647) (hof : -2147483648 ≤ of ∧ of ≤ 2147483647) (hm : -2147483648 ≤ m ∧ m ≤ 2147483647) : zC G M_X10_levels [.ref B, vi to, vi of, vi m] (zxS B, σ, τ) (xQ B (sp_levels A to of m)) := by
  refine zC_of 2 rfl (Nat.le_of_ble_eq_true rfl) ?_
  have body : aPl to → aTold A of → (2 ≤ m ∧ m ≤ 64) → zW G M_X10_levels (xQ B (sp_levels A to of m)) 43 [some (.ref B), some (vi to), some (vi of), some (vi m), none, none] [] (zxS B, zu σ B 17 0, τ) := by
    intro hc1 hc2 hc3
    have hwh := (h.p of.toNat (by omega)).wh hc2.2
    have hcn := zz_wh (w := (A.1 of.toNat).1) (h := (A.1 of.toNat).2.1) (by omega) (by omega)
    have hdr := ((h.p of.toNat (by omega)).2.2 hc2.2).2.2
    generalize hσ1 : zu σ B 17 0 = σ1
    have h17 : σ1 B 17 = 0 := by rw [← hσ1]; exact zu_eq _ _ _ _
    have hs1 : xScr B σ σ1 := by rw [← hσ1]; exact xScr.z
    have hp1 := hs1.P h.p of.toNat (by omega)
    have hsd := hp1.sd hc2.2
    rw [(hp1.wh hc2.2).1.1, (hp1.wh hc2.2).1.2] at hsd
    unfold zSd at hsd
    have hst := fun (N : Nat → Int) => xDI.start (B := B) (N := N) hp1 hc2.2
    have hOf := (hp1.2.2 hc2.2).2.2
    generalize σ1 (zpa B of.toNat + 1) = O at hsd hst hOf
    generalize hN : (fun d : Nat => 255 * (O d * m / 256) / (m - 1)) = N
    have hN' : ∀ d : Nat, 255 * (O d * m / 256) / (m - 1) = N d := fun d => by rw [← hN]
    have loop : ∀ (fu i : Nat) (σs : zSt), (i : Int) ≤ (A.1 of.toNat).1 * (A.1 of.toNat).2.1 → (A.1 of.toNat).1 * (A.1 of.toNat).2.1 - i < fu → xDI B σ1 (A.1 of.toNat).1 (A.1 of.toNat).2.1 N O i σs → zW G M_X10_levels (xQ B (sp_levels A to of m)) 59 [some (.ref B), some (vi to), some (vi of), some (vi m), some (vi i), none] [] (zxS B, σs, τ) := by
      intro fu
      induction fu with
      | zero => intro i σs h1 h2; omega
      | succ fu ih =>
        intro i σs h1 h2 hl
        have hw1 := hl.2.2.1
        have hw2 := hl.2.2.2.1
        have hpw : zPW σs (B + 2) := by unfold zPW; omega
        have hO : (i : Int) < (A.1 of.toNat).1 * (A.1 of.toNat).2.1 → σs (B + 3) i = O i := hl.2.2.2.2.2 i (Nat.le_refl _)
        have hs2 := hs1.tr hl.1

        refine zw_iload 61 rfl dX10_levels_59 rfl ?_
        refine zw_aload_n 62 rfl dX10_levels_61 rfl ?_
        refine zw_getr 65 rfl dX10_levels_62 fl_X10_16 (by first | assumption | exact zx_o0 | exact zx_o _ _ _ rfl) (by first | assumption | exact zx_f0 _ _ rfl | exact zx_f _ _ _ rfl) ?_
        refine zw_cVi0 68 rfl dX10_levels_65 kX10_levels_212 (Nat.le_of_ble_eq_true rfl) (by first | assumption | exact zx_o0 | exact zx_o _ _ _ rfl) (c_count zx_work) ?_
        rw [hw1, hw2]
        refine zw_icmp_ge 115 71 rfl dX10_levels_68 (by decide) (by omega) (by omega) (fun h_68 => ?_) (fun h_68 => ?_)
        · have hpic : xrPic σs (B + 2) (aLev (A.1 of.toNat) m) := hl.pic (by omega) (by omega) (by omega) (fun x y hx hy => by
            have i1 := zz_ix hx hy (by omega) (by omega)
            have hlv := zz_lev (hdr x y hx hy).2 hc3
            refine ⟨?_, hlv.2.2⟩
            rw [← hN', (hOf x y hx hy).1])
          refine zw_aload_n 116 rfl dX10_levels_115 rfl ?_
          refine zw_iload_n 117 rfl dX10_levels_116 rfl ?_
          refine zw_iload_n 118 rfl dX10_levels_117 rfl ?_
          refine zw_cVr2 121 rfl dX10_levels_118 kX10_levels_220 (Nat.le_of_ble_eq_true rfl) (by first | assumption | exact zx_o0 | exact zx_o _ _ _ rfl) (c_actCO (hs2.P h.p) (hs2.H h.hs) hpic hc1 hc2.1 hc2.2 rfl rfl) ?_
          rintro _ _ ⟨rfl, σ2, rfl, hA⟩
          exact zw_iret (st := []) dX10_levels_121 rfl (xGood (σ := σ) (τ := τ) (by rw [if_pos hc1, if_pos hc2, if_pos hc3]) rfl (h.act hs2 rfl (hl.2.1.trans h17) hA (by omega)))
        · have hlv := zz_lev (hsd i (by omega)) hc3
          refine zw_aload_n 72 rfl dX10_levels_71 rfl ?_
          refine zw_getr 75 rfl dX10_levels_72 fl_X10_16 (by first | assumption | exact zx_o0 | exact zx_o _ _ _ rfl) (by first | assumption | exact zx_f0 _ _ rfl | exact zx_f _ _ _ rfl) ?_
          refine zw_getr 78 rfl dX10_levels_75 fl_X10_198 (by first | assumption | exact zx_o0 | exact zx_o _ _ _ rfl) (by first | assumption | exact zx_f0 _ _ rfl | exact zx_f _ _ _ rfl) ?_
          refine zw_iload 80 rfl dX10_levels_78 rfl ?_
          refine zw_iald 81 rfl dX10_levels_80 (by first | assumption | exact zx_o0 | exact zx_o _ _ _ rfl) (by omega) (by omega) ?_
          rw [Int.toNat_natCast, hO (by omega)]
          refine zw_iload_n 82 rfl dX10_levels_81 rfl ?_
          refine zw_imul 83 rfl dX10_levels_82 ?_
          refine zw_sipush 86 rfl dX10_levels_83 rfl ?_
          refine zw_idiv 87 rfl dX10_levels_86 (by omega) (by omega) ?_
          refine zw_istore 89 rfl dX10_levels_87 (Nat.le_of_ble_eq_true rfl) rfl ?_
          refine zw_aload_n 90 rfl dX10_levels_89 rfl ?_
          refine zw_getr 93 rfl dX10_levels_90 fl_X10_16 (by first | assumption | exact zx_o0 | exact zx_o _ _ _ rfl) (by first | assumption | exact zx_f0 _ _ rfl | exact zx_f _ _ _ rfl) ?_
          refine zw_getr 96 rfl dX10_levels_93 fl_X10_198 (by first | assumption | exact zx_o0 | exact zx_o _ _ _ rfl) (by first | assumption | exact zx_f0 _ _ rfl | exact zx_f _ _ _ rfl) ?_
          refine zw_iload 98 rfl dX10_levels_96 rfl ?_
          refine zw_sipush 101 rfl dX10_levels_98 rfl ?_
          refine zw_iload 103 rfl dX10_levels_101 rfl ?_
          refine zw_imul 104 rfl dX10_levels_103 ?_
          refine zw_iload_n 105 rfl dX10_levels_104 rfl ?_
          refine zw_iconst 106 rfl dX10_levels_105 ?_
          refine zw_isub 107 rfl dX10_levels_106 ?_
          refine zw_idiv 108 rfl dX10_levels_107 (by omega) (by omega) ?_
          rw [hN']
          refine zw_iast 109 rfl dX10_levels_108 (by first | assumption | exact zx_o0 | exact zx_o _ _ _ rfl) (by omega) (by omega) ?_
          refine zw_iinc 112 rfl dX10_levels_109 (Nat.le_of_ble_eq_true rfl) rfl rfl ?_
          refine zw_goto 59 dX10_levels_112 (by decide) ?_
          refine zw_drop 5 ?_
          exact ih (i + 1) _ (by omega) (by omega) hl.put
    refine zw_aload_n 44 rfl dX10_levels_43 rfl ?_
    refine zw_getr 47 rfl dX10_levels_44 fl_X10_16 (by first | assumption | exact zx_o0 | exact zx_o _ _ _ rfl) (by first | assumption | exact zx_f0 _ _ rfl | exact zx_f _ _ _ rfl) ?_
    refine zw_aload_n 48 rfl dX10_levels_47 rfl ?_
    refine zw_getr 51 rfl dX10_levels_48 fl_X10_11 (by first | assumption | exact zx_o0 | exact zx_o _ _ _ rfl) (by first | assumption | exact zx_f0 _ _ rfl | exact zx_f _ _ _ rfl) ?_
    refine zw_iload_n 52 rfl dX10_levels_51 rfl ?_
    refine zw_aald 53 rfl dX10_levels_52 (by first | assumption | exact zx_o0 | exact zx_o _ _ _ rfl) (by omega) (by omega) (by first | assumption | exact zx_p6r (by omega)) ?_
    refine zw_cVv1 56 rfl dX10_levels_53 kX10_levels_137 (Nat.le_of_ble_eq_true rfl) (by first | assumption | exact zx_o0 | exact zx_o _ _ _ rfl) (c_become zx_work (zx_p6 (by omega)) (by simp only [zpa]; omega) (by simp only [zpa]; omega)) ?_
    refine zw_iconst 57 rfl dX10_levels_56 ?_
    refine zw_istore 59 rfl dX10_levels_57 (Nat.le_of_ble_eq_true rfl) rfl ?_
    exact loop (((A.1 of.toNat).1 * (A.1 of.toNat).2.1).toNat + 1) 0 _ (by omega) (by omega) (hst N)
  have J : ∀ v : Int, v = (if aPl to then if aTold A of then if 2 ≤ m ∧ m ≤ 64 then 0 else 2 else 1 else 1) → zW G M_X10_levels (xQ B (sp_levels A to of m)) 35 [some (.ref B), some (vi to), some (vi of), some (vi m), none, none] [vi v, .ref B] (zxS B, σ, τ) := by
    intro v hv

    refine zw_cVi1 38 rfl dX10_levels_35 kX10_levels_105 (Nat.le_of_ble_eq_true rfl) (by first | assumption | exact zx_o0 | exact zx_o _ _ _ rfl) (c_refused (by rw [hv]; (repeat' split) <;> omega)) ?_
    refine zw_if_eqB 43 41 rfl dX10_levels_38 (by decide) (fun h_38 => ?_) (fun h_38 => ?_)
    · have hc1 : aPl to := Decidable.byContradiction fun q => by rw [if_neg q] at hv; (try split at hv) <;> omega
      rw [if_pos hc1] at hv
      have hc2 : aTold A of := Decidable.byContradiction fun q => by rw [if_neg q] at hv; (try split at hv) <;> omega
      rw [if_pos hc2] at hv
      have hc3 : 2 ≤ m ∧ m ≤ 64 := Decidable.byContradiction fun q => by rw [if_neg q] at hv; (try split at hv) <;> omega
      rw [if_pos hc3] at hv
      subst hv
      exact body hc1 hc2 hc3
    · refine zw_iconst 42 rfl dX10_levels_41 ?_
      subst hv
      exact zw_iret (st := []) dX10_levels_42 rfl (xRef h h_38 (by (repeat' split) <;> omega))
  refine zw_aload_n 1 rfl dX10_levels_0 rfl ?_
  refine zw_iload_n 2 rfl dX10_levels_1 rfl ?_
  refine zw_cSi1 5 rfl dX10_levels_2 kX10_levels_191 (Nat.le_of_ble_eq_true rfl) (c_isPlace hto) ?_
  refine zw_if_eqB 16 8 rfl dX10_levels_5 (by decide) (fun h_5 => ?_) (fun h_5 => ?_)
  · refine zw_iconst 17 rfl dX10_levels_16 ?_
    refine zw_goto 35 dX10_levels_17 (by decide) ?_
    exact J _ (by simp only [if_neg h_5])
  · refine zw_aload_n 9 rfl dX10_levels_8 rfl ?_
    refine zw_iload_n 10 rfl dX10_levels_9 rfl ?_
    refine zw_cVi1 13 rfl dX10_levels_10 kX10_levels_145 (Nat.le_of_ble_eq_true rfl) (by first | assumption | exact zx_o0 | exact zx_o _ _ _ rfl) (c_told h.p hof) ?_
    refine zw_if_neB 20 16 rfl dX10_levels_13 (by decide) (fun h_13 => ?_) (fun h_13 => ?_)
    · refine zw_iload_n 21 rfl dX10_levels_20 rfl ?_
      refine zw_iconst 22 rfl dX10_levels_21 ?_
      refine zw_bipush 24 rfl dX10_levels_22 rfl ?_
      refine zw_cSi3 27 rfl dX10_levels_24 kX10_levels_101 (Nat.le_of_ble_eq_true rfl) (c_within (by omega) (by omega) (by omega)) ?_
      refine zw_if_neB 34 30 rfl dX10_levels_27 (by decide) (fun h_27 => ?_) (fun h_27 => ?_)
      · refine zw_iconst 35 rfl dX10_levels_34 ?_
        exact J _ (by simp only [if_pos h_5, if_pos h_13, if_pos h_27])
      · refine zw_iconst 31 rfl dX10_levels_30 ?_
        refine zw_goto 35 dX10_levels_31 (by decide) ?_
        exact J _ (by simp only [if_pos h_5, if_pos h_13, if_neg h_27])
    · refine zw_iconst 17 rfl dX10_levels_16 ?_
      refine zw_goto 35 dX10_levels_17 (by decide) ?_
      exact J _ (by simp only [if_pos h_5, if_neg h_13])
