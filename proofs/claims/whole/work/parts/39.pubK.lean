/-! ===== stretch ===== -/
def aStr (p : zPc) : zPc := (p.1, p.2.1, fun x y => 255 * (p.2.2 x y - aLeast p) / (aMost p - aLeast p))
def sp_stretch (A : zA) (to of : Int) : Int × zA := aAns (if aPl to then if aTold A of then if aLeast (A.1 of.toNat) < aMost (A.1 of.toNat) then 0 else 5 else 1 else 1) (-1) A (aOth (aStr (A.1 of.toNat)) (A.1 of.toNat), aAct A to.toNat (aStr (A.1 of.toNat)))
theorem zz_str {v l m : Int} (hv : l ≤ v ∧ v ≤ m) (hl : 0 ≤ l) (hm : m ≤ 255) (h : l < m) : 0 ≤ 255 * (v - l) / (m - l) ∧ 255 * (v - l) / (m - l) ≤ 255 := by
  refine ⟨Int.ediv_nonneg (by omega) (by omega), Int.ediv_le_of_le_mul (by omega) (by omega)⟩
theorem X_stretch {G : zG} {B : Nat} {σ τ : zSt} {A : zA} {to of : Int} (h : zxR B σ τ A) (hto : -2147483648 ≤ to ∧ to ≤ 2147483647) (hof : -2147483648 ≤ of ∧ of ≤ 2147483647) : zC G M_X10_stretch [.ref B, vi to, vi of] (zxS B, σ, τ) (xQ B (sp_stretch A to of)) := by
  refine zC_of 3 rfl (Nat.le_of_ble_eq_true rfl) ?_
  have body : aPl to → aTold A of → (aLeast (A.1 of.toNat) < aMost (A.1 of.toNat)) → zW G M_X10_stretch (xQ B (sp_stretch A to of)) 54 [some (.ref B), some (vi to), some (vi of), none, none, none] [] (zxS B, zu σ B 17 0, τ) := by
    intro hc1 hc2 hc3
    have hl1 := aLeast_r (fun x y hx hy => (((h.p of.toNat (by omega)).2.2 hc2.2).2.2 x y hx hy).2)
    have hm1 := aMost_r (fun x y hx hy => (((h.p of.toNat (by omega)).2.2 hc2.2).2.2 x y hx hy).2)
    have hwh := (h.p of.toNat (by omega)).wh hc2.2
    have hcn := zz_wh (w := (A.1 of.toNat).1) (h := (A.1 of.toNat).2.1) (by omega) (by omega)
    have hdr := ((h.p of.toNat (by omega)).2.2 hc2.2).2.2
    generalize hσ1 : zu σ B 17 0 = σ1
    have h17 : σ1 B 17 = 0 := by rw [← hσ1]; exact zu_eq _ _ _ _
    have hs1 : xScr B σ σ1 := by rw [← hσ1]; exact xScr.z
    have hp1 := hs1.P h.p of.toNat (by omega)
    have hsd := hp1.sd hc2.2
    rw [(hp1.wh hc2.2).1.1, (hp1.wh hc2.2).1.2] at hsd
    unfold zSd at hsd
    have hst := fun (N : Nat → Int) => xDI.start (B := B) (N := N) hp1 hc2.2
    have hOf := (hp1.2.2 hc2.2).2.2
    generalize σ1 (zpa B of.toNat + 1) = O at hsd hst hOf
    have hrO : ∀ i : Nat, (i : Int) < (A.1 of.toNat).1 * (A.1 of.toNat).2.1 → aLeast (A.1 of.toNat) ≤ O i ∧ O i ≤ aMost (A.1 of.toNat) := by
      intro i hi
      have e2 := Int.emod_nonneg (i : Int) (show (A.1 of.toNat).1 ≠ 0 by omega)
      have e3 := Int.emod_lt_of_pos (i : Int) hc2.2
      have e4 : 0 ≤ (i : Int) / (A.1 of.toNat).1 := Int.ediv_nonneg (by omega) (by omega)
      have e5 : (i : Int) / (A.1 of.toNat).1 < (A.1 of.toNat).2.1 := Int.ediv_lt_of_lt_mul hc2.2 (by rw [Int.mul_comm]; exact hi)
      have e1 : (i : Int) / (A.1 of.toNat).1 * (A.1 of.toNat).1 + (i : Int) % (A.1 of.toNat).1 = i := by have := Int.emod_add_mul_ediv (i : Int) (A.1 of.toNat).1; rw [Int.mul_comm]; omega
      have t := (hOf ((i : Int) % (A.1 of.toNat).1) ((i : Int) / (A.1 of.toNat).1) ⟨e2, e3⟩ ⟨e4, e5⟩).1
      rw [e1, Int.toNat_natCast] at t
      rw [t]
      exact ⟨aLeast_le ⟨e2, e3⟩ ⟨e4, e5⟩, aMost_ge ⟨e2, e3⟩ ⟨e4, e5⟩⟩
    have hla : ∀ x y : Int, 0 ≤ x ∧ x < (A.1 of.toNat).1 → 0 ≤ y ∧ y < (A.1 of.toNat).2.1 → aLeast (A.1 of.toNat) ≤ (A.1 of.toNat).2.2 x y ∧ (A.1 of.toNat).2.2 x y ≤ aMost (A.1 of.toNat) := fun x y hx hy => ⟨aLeast_le hx hy, aMost_ge hx hy⟩
    generalize hN : (fun d : Nat => 255 * (O d - aLeast (A.1 of.toNat)) / (aMost (A.1 of.toNat) - aLeast (A.1 of.toNat))) = N
    have hN' : ∀ d : Nat, 255 * (O d - aLeast (A.1 of.toNat)) / (aMost (A.1 of.toNat) - aLeast (A.1 of.toNat)) = N d := fun d => by rw [← hN]
    have loop : ∀ (fu i : Nat) (σs : zSt), (i : Int) ≤ (A.1 of.toNat).1 * (A.1 of.toNat).2.1 → (A.1 of.toNat).1 * (A.1 of.toNat).2.1 - i < fu → xDI B σ1 (A.1 of.toNat).1 (A.1 of.toNat).2.1 N O i σs → zW G M_X10_stretch (xQ B (sp_stretch A to of)) 93 [some (.ref B), some (vi to), some (vi of), some (vi (aLeast (A.1 of.toNat))), some (vi (aMost (A.1 of.toNat) - aLeast (A.1 of.toNat))), some (vi i)] [] (zxS B, σs, τ) := by
      intro fu
      induction fu with
      | zero => intro i σs h1 h2; omega
      | succ fu ih =>
        intro i σs h1 h2 hl
        have hw1 := hl.2.2.1
        have hw2 := hl.2.2.2.1
        have hpw : zPW σs (B + 2) := by unfold zPW; omega
        have hO : (i : Int) < (A.1 of.toNat).1 * (A.1 of.toNat).2.1 → σs (B + 3) i = O i := hl.2.2.2.2.2 i (Nat.le_refl _)
        have hs2 := hs1.tr hl.1

        have E145 : (A.1 of.toNat).1 * (A.1 of.toNat).2.1 ≤ (i : Int) → zW G M_X10_stretch (xQ B (sp_stretch A to of)) 145 [some (.ref B), some (vi to), some (vi of), some (vi (aLeast (A.1 of.toNat))), some (vi (aMost (A.1 of.toNat) - aLeast (A.1 of.toNat))), some (vi i)] [] (zxS B, σs, τ) := by
          intro hi
          have hpic : xrPic σs (B + 2) (aStr (A.1 of.toNat)) := hl.pic hi (by omega) (by omega) (fun x y hx hy => by
            refine ⟨?_, ?_⟩
            · rw [← hN', (hOf x y hx hy).1]
            · exact zz_str (hla x y hx hy) hl1.1 hm1.2 hc3)
          refine zw_aload_n 146 rfl dX10_stretch_145 rfl ?_
          refine zw_iload_n 147 rfl dX10_stretch_146 rfl ?_
          refine zw_iload_n 148 rfl dX10_stretch_147 rfl ?_
          refine zw_cVr2 151 rfl dX10_stretch_148 kX10_stretch_220 (Nat.le_of_ble_eq_true rfl) (by first | assumption | exact zx_o0 | exact zx_o _ _ _ rfl) (c_actCO (hs2.P h.p) (hs2.H h.hs) hpic hc1 hc2.1 hc2.2 rfl rfl) ?_
          rintro _ _ ⟨rfl, σ2, rfl, hA⟩
          exact zw_iret (st := []) dX10_stretch_151 rfl (xGood (σ := σ) (τ := τ) (by simp only [if_pos hc1, if_pos hc2, if_pos hc3]) rfl (h.act hs2 rfl (hl.2.1.trans h17) hA (by omega)))
        refine zw_iload 95 rfl dX10_stretch_93 rfl ?_
        refine zw_aload_n 96 rfl dX10_stretch_95 rfl ?_
        refine zw_getr 99 rfl dX10_stretch_96 fl_X10_16 (by first | assumption | exact zx_o0 | exact zx_o _ _ _ rfl) (by first | assumption | exact zx_f0 _ _ rfl | exact zx_f _ _ _ rfl) ?_
        refine zw_cVi0 102 rfl dX10_stretch_99 kX10_stretch_212 (Nat.le_of_ble_eq_true rfl) (by first | assumption | exact zx_o0 | exact zx_o _ _ _ rfl) (c_count zx_work) ?_
        rw [hw1, hw2]
        refine zw_icmp_ge 145 105 rfl dX10_stretch_102 (by decide) (by omega) (by omega) (fun h_102 => ?_) (fun h_102 => ?_)
        · first | (exfalso; omega) | exact E145 (by omega)
        · refine zw_iload 107 rfl dX10_stretch_105 rfl ?_
          refine zw_if_le 145 110 rfl dX10_stretch_107 (by decide) (by omega) (fun h_107 => ?_) (fun h_107 => ?_)
          · first | (exfalso; omega) | exact E145 (by omega)
          · have hri := hrO i (by omega)
            refine zw_aload_n 111 rfl dX10_stretch_110 rfl ?_
            refine zw_getr 114 rfl dX10_stretch_111 fl_X10_16 (by first | assumption | exact zx_o0 | exact zx_o _ _ _ rfl) (by first | assumption | exact zx_f0 _ _ rfl | exact zx_f _ _ _ rfl) ?_
            refine zw_getr 117 rfl dX10_stretch_114 fl_X10_198 (by first | assumption | exact zx_o0 | exact zx_o _ _ _ rfl) (by first | assumption | exact zx_f0 _ _ rfl | exact zx_f _ _ _ rfl) ?_
            refine zw_iload 119 rfl dX10_stretch_117 rfl ?_
            refine zw_sipush 122 rfl dX10_stretch_119 rfl ?_
            refine zw_aload_n 123 rfl dX10_stretch_122 rfl ?_
            refine zw_getr 126 rfl dX10_stretch_123 fl_X10_16 (by first | assumption | exact zx_o0 | exact zx_o _ _ _ rfl) (by first | assumption | exact zx_f0 _ _ rfl | exact zx_f _ _ _ rfl) ?_
            refine zw_getr 129 rfl dX10_stretch_126 fl_X10_198 (by first | assumption | exact zx_o0 | exact zx_o _ _ _ rfl) (by first | assumption | exact zx_f0 _ _ rfl | exact zx_f _ _ _ rfl) ?_
            refine zw_iload 131 rfl dX10_stretch_129 rfl ?_
            refine zw_iald 132 rfl dX10_stretch_131 (by first | assumption | exact zx_o0 | exact zx_o _ _ _ rfl) (by omega) (by omega) ?_
            rw [Int.toNat_natCast, hO (by omega)]
            refine zw_iload_n 133 rfl dX10_stretch_132 rfl ?_
            refine zw_isub 134 rfl dX10_stretch_133 ?_
            refine zw_imul 135 rfl dX10_stretch_134 ?_
            refine zw_iload 137 rfl dX10_stretch_135 rfl ?_
            refine zw_idiv 138 rfl dX10_stretch_137 (by omega) (by omega) ?_
            rw [hN']
            refine zw_iast 139 rfl dX10_stretch_138 (by first | assumption | exact zx_o0 | exact zx_o _ _ _ rfl) (by omega) (by omega) ?_
            refine zw_iinc 142 rfl dX10_stretch_139 (Nat.le_of_ble_eq_true rfl) rfl rfl ?_
            refine zw_goto 93 dX10_stretch_142 (by decide) ?_
            exact ih (i + 1) _ (by omega) (by omega) hl.put
    refine zw_aload_n 55 rfl dX10_stretch_54 rfl ?_
    refine zw_getr 58 rfl dX10_stretch_55 fl_X10_11 (by first | assumption | exact zx_o0 | exact zx_o _ _ _ rfl) (by first | assumption | exact zx_f0 _ _ rfl | exact zx_f _ _ _ rfl) ?_
    refine zw_iload_n 59 rfl dX10_stretch_58 rfl ?_
    refine zw_aald 60 rfl dX10_stretch_59 (by first | assumption | exact zx_o0 | exact zx_o _ _ _ rfl) (by omega) (by omega) (by first | assumption | exact zx_p6r (by omega)) ?_
    refine zw_cVi0 63 rfl dX10_stretch_60 kX10_stretch_154 (Nat.le_of_ble_eq_true rfl) (zx_p6 (by omega)).1 (c_leastP (zx_p6 (by omega)) hp1 hc2.2) ?_
    refine zw_istore_n 64 rfl dX10_stretch_63 (Nat.le_of_ble_eq_true rfl) rfl ?_
    refine zw_aload_n 65 rfl dX10_stretch_64 rfl ?_
    refine zw_getr 68 rfl dX10_stretch_65 fl_X10_11 (by first | assumption | exact zx_o0 | exact zx_o _ _ _ rfl) (by first | assumption | exact zx_f0 _ _ rfl | exact zx_f _ _ _ rfl) ?_
    refine zw_iload_n 69 rfl dX10_stretch_68 rfl ?_
    refine zw_aald 70 rfl dX10_stretch_69 (by first | assumption | exact zx_o0 | exact zx_o _ _ _ rfl) (by omega) (by omega) (by first | assumption | exact zx_p6r (by omega)) ?_
    refine zw_cVi0 73 rfl dX10_stretch_70 kX10_stretch_158 (Nat.le_of_ble_eq_true rfl) (zx_p6 (by omega)).1 (c_greatestP (zx_p6 (by omega)) hp1 hc2.2) ?_
    refine zw_iload_n 74 rfl dX10_stretch_73 rfl ?_
    refine zw_isub 75 rfl dX10_stretch_74 ?_
    refine zw_istore 77 rfl dX10_stretch_75 (Nat.le_of_ble_eq_true rfl) rfl ?_
    refine zw_aload_n 78 rfl dX10_stretch_77 rfl ?_
    refine zw_getr 81 rfl dX10_stretch_78 fl_X10_16 (by first | assumption | exact zx_o0 | exact zx_o _ _ _ rfl) (by first | assumption | exact zx_f0 _ _ rfl | exact zx_f _ _ _ rfl) ?_
    refine zw_aload_n 82 rfl dX10_stretch_81 rfl ?_
    refine zw_getr 85 rfl dX10_stretch_82 fl_X10_11 (by first | assumption | exact zx_o0 | exact zx_o _ _ _ rfl) (by first | assumption | exact zx_f0 _ _ rfl | exact zx_f _ _ _ rfl) ?_
    refine zw_iload_n 86 rfl dX10_stretch_85 rfl ?_
    refine zw_aald 87 rfl dX10_stretch_86 (by first | assumption | exact zx_o0 | exact zx_o _ _ _ rfl) (by omega) (by omega) (by first | assumption | exact zx_p6r (by omega)) ?_
    refine zw_cVv1 90 rfl dX10_stretch_87 kX10_stretch_137 (Nat.le_of_ble_eq_true rfl) (by first | assumption | exact zx_o0 | exact zx_o _ _ _ rfl) (c_become zx_work (zx_p6 (by omega)) (by simp only [zpa]; omega) (by simp only [zpa]; omega)) ?_
    refine zw_iconst 91 rfl dX10_stretch_90 ?_
    refine zw_istore 93 rfl dX10_stretch_91 (Nat.le_of_ble_eq_true rfl) rfl ?_
    exact loop (((A.1 of.toNat).1 * (A.1 of.toNat).2.1).toNat + 1) 0 _ (by omega) (by omega) (hst N)
  have J : ∀ v : Int, v = (if aPl to then if aTold A of then if aLeast (A.1 of.toNat) < aMost (A.1 of.toNat) then 0 else 5 else 1 else 1) → zW G M_X10_stretch (xQ B (sp_stretch A to of)) 46 [some (.ref B), some (vi to), some (vi of), none, none, none] [vi v, .ref B] (zxS B, σ, τ) := by
    intro v hv

    refine zw_cVi1 49 rfl dX10_stretch_46 kX10_stretch_105 (Nat.le_of_ble_eq_true rfl) (by first | assumption | exact zx_o0 | exact zx_o _ _ _ rfl) (c_refused (by rw [hv]; (repeat' split) <;> omega)) ?_
    refine zw_if_eqB 54 52 rfl dX10_stretch_49 (by decide) (fun h_49 => ?_) (fun h_49 => ?_)
    · have hc1 : aPl to := Decidable.byContradiction fun q => by rw [if_neg q] at hv; (try split at hv) <;> omega
      rw [if_pos hc1] at hv
      have hc2 : aTold A of := Decidable.byContradiction fun q => by rw [if_neg q] at hv; (try split at hv) <;> omega
      rw [if_pos hc2] at hv
      have hc3 : aLeast (A.1 of.toNat) < aMost (A.1 of.toNat) := Decidable.byContradiction fun q => by rw [if_neg q] at hv; (try split at hv) <;> omega
      rw [if_pos hc3] at hv
      subst hv
      exact body hc1 hc2 hc3
    · refine zw_iconst 53 rfl dX10_stretch_52 ?_
      subst hv
      exact zw_iret (st := []) dX10_stretch_53 rfl (xRef h h_49 (by (repeat' split) <;> omega))
  refine zw_aload_n 1 rfl dX10_stretch_0 rfl ?_
  refine zw_iload_n 2 rfl dX10_stretch_1 rfl ?_
  refine zw_cSi1 5 rfl dX10_stretch_2 kX10_stretch_191 (Nat.le_of_ble_eq_true rfl) (c_isPlace hto) ?_
  refine zw_if_eqB 16 8 rfl dX10_stretch_5 (by decide) (fun h_5 => ?_) (fun h_5 => ?_)
  · refine zw_iconst 17 rfl dX10_stretch_16 ?_
    refine zw_goto 46 dX10_stretch_17 (by decide) ?_
    exact J _ (by simp only [if_neg h_5])
  · refine zw_aload_n 9 rfl dX10_stretch_8 rfl ?_
    refine zw_iload_n 10 rfl dX10_stretch_9 rfl ?_
    refine zw_cVi1 13 rfl dX10_stretch_10 kX10_stretch_145 (Nat.le_of_ble_eq_true rfl) (by first | assumption | exact zx_o0 | exact zx_o _ _ _ rfl) (c_told h.p hof) ?_
    refine zw_if_neB 20 16 rfl dX10_stretch_13 (by decide) (fun h_13 => ?_) (fun h_13 => ?_)
    · have hl1 := aLeast_r (fun x y hx hy => (((h.p of.toNat (by omega)).2.2 h_13.2).2.2 x y hx hy).2)
      have hm1 := aMost_r (fun x y hx hy => (((h.p of.toNat (by omega)).2.2 h_13.2).2.2 x y hx hy).2)
      refine zw_aload_n 21 rfl dX10_stretch_20 rfl ?_
      refine zw_getr 24 rfl dX10_stretch_21 fl_X10_11 (by first | assumption | exact zx_o0 | exact zx_o _ _ _ rfl) (by first | assumption | exact zx_f0 _ _ rfl | exact zx_f _ _ _ rfl) ?_
      refine zw_iload_n 25 rfl dX10_stretch_24 rfl ?_
      refine zw_aald 26 rfl dX10_stretch_25 (by first | assumption | exact zx_o0 | exact zx_o _ _ _ rfl) (by omega) (by omega) (by first | assumption | exact zx_p6r (by omega)) ?_
      refine zw_cVi0 29 rfl dX10_stretch_26 kX10_stretch_154 (Nat.le_of_ble_eq_true rfl) (zx_p6 (by omega)).1 (c_leastP (zx_p6 (by omega)) (h.p of.toNat (by omega)) h_13.2) ?_
      refine zw_aload_n 30 rfl dX10_stretch_29 rfl ?_
      refine zw_getr 33 rfl dX10_stretch_30 fl_X10_11 (by first | assumption | exact zx_o0 | exact zx_o _ _ _ rfl) (by first | assumption | exact zx_f0 _ _ rfl | exact zx_f _ _ _ rfl) ?_
      refine zw_iload_n 34 rfl dX10_stretch_33 rfl ?_
      refine zw_aald 35 rfl dX10_stretch_34 (by first | assumption | exact zx_o0 | exact zx_o _ _ _ rfl) (by omega) (by omega) (by first | assumption | exact zx_p6r (by omega)) ?_
      refine zw_cVi0 38 rfl dX10_stretch_35 kX10_stretch_158 (Nat.le_of_ble_eq_true rfl) (zx_p6 (by omega)).1 (c_greatestP (zx_p6 (by omega)) (h.p of.toNat (by omega)) h_13.2) ?_
      refine zw_icmp_lt 45 41 rfl dX10_stretch_38 (by decide) (by omega) (by omega) (fun h_38 => ?_) (fun h_38 => ?_)
      · refine zw_iconst 46 rfl dX10_stretch_45 ?_
        exact J _ (by simp only [if_pos h_5, if_pos h_13, if_pos h_38])
      · refine zw_iconst 42 rfl dX10_stretch_41 ?_
        refine zw_goto 46 dX10_stretch_42 (by decide) ?_
        exact J _ (by simp only [if_pos h_5, if_pos h_13, if_neg h_38])
    · refine zw_iconst 17 rfl dX10_stretch_16 ?_
      refine zw_goto 46 dX10_stretch_17 (by decide) ?_
      exact J _ (by simp only [if_pos h_5, if_neg h_13])
