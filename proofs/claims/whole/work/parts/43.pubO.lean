/-! ===== apart ===== -/
def aApart (p q : zPc) (what : Int) : Int := if what = 0 then zwin 0 p.1 0 p.2.1 (fun x y n => n + if 0 < zab (p.2.2 x y - q.2.2 x y) then 1 else 0) 0 else if what = 1 then zwin 0 p.1 0 p.2.1 (fun x y n => n + zab (p.2.2 x y - q.2.2 x y)) 0 else zwin 0 p.1 0 p.2.1 (fun x y n => if n < zab (p.2.2 x y - q.2.2 x y) then zab (p.2.2 x y - q.2.2 x y) else n) 0
def sp_apart (A : zA) (of ot what : Int) : Int × zA := aAns (if aTold A of then if aTold A ot then if 0 ≤ what ∧ what ≤ 2 then if aLike A of ot then 0 else 5 else 1 else 1 else 1) (-1) A (aApart (A.1 of.toNat) (A.1 ot.toNat) what, A)
theorem X_apart {G : zG} {B : Nat} {σ τ : zSt} {A : zA} {of ot what : Int} (h : zxR B σ τ A) (hof : -2147483648 ≤ of ∧ of ≤ 2147483647) (hot : -2147483648 ≤ ot ∧ ot ≤ 2147483647) (hwhat : -2147483648 ≤ what ∧ what ≤ 2147483647) : zC G M_X10_apart [.ref B, vi of, vi ot, vi what] (zxS B, σ, τ) (xQ B (sp_apart A of ot what)) := by
  refine zC_of 5 rfl (Nat.le_of_ble_eq_true rfl) ?_
  have body : aTold A of → aTold A ot → (0 ≤ what ∧ what ≤ 2) → aLike A of ot → zW G M_X10_apart (xQ B (sp_apart A of ot what)) 52 [some (.ref B), some (vi of), some (vi ot), some (vi what), none, none, none, none, none] [] (zxS B, zu σ B 17 0, τ) := by
    intro hc1 hc2 hc3 hlk
    have hP1 := (xScr.z (v := 0)).P h.p of.toNat (by omega)
    have hP2 := (xScr.z (v := 0)).P h.p ot.toNat (by omega)
    have hq1 := (zx_p6 (B := B) (i := of.toNat) (by omega))
    have hq2 := (zx_p6 (B := B) (i := ot.toNat) (by omega))
    have hwh := hP1.wh hc1.2
    have hwh2 := hP2.wh hc2.2
    have hcn := zz_wh (w := (A.1 of.toNat).1) (h := (A.1 of.toNat).2.1) (by omega) (by omega)
    have s1 := hP1.sd hc1.2
    have s2 := hP2.sd hc2.2
    unfold zSd at s1 s2
    rw [hwh.1.1, hwh.1.2] at s1
    rw [hwh2.1.1, hwh2.1.2, ← hlk.1, ← hlk.2] at s2
    have f1 := (hP1.2.2 hc1.2).2.2
    have f2 := (hP2.2.2 hc2.2).2.2
    rw [← hlk.1, ← hlk.2] at f2
    generalize hσ1 : zu σ B 17 0 = σ1 at *
    have h17 : σ1 B 17 = 0 := by rw [← hσ1]; exact zu_eq _ _ _ _
    have hs1 : xScr B σ σ1 := by rw [← hσ1]; exact xScr.z
    generalize hV : (fun d : Nat => zab (σ1 (zpa B of.toNat + 1) d - σ1 (zpa B ot.toNat + 1) d)) = V
    have hV' : ∀ d : Nat, (if 0 ≤ σ1 (zpa B of.toNat + 1) d - σ1 (zpa B ot.toNat + 1) d then σ1 (zpa B of.toNat + 1) d - σ1 (zpa B ot.toNat + 1) d else -(σ1 (zpa B of.toNat + 1) d - σ1 (zpa B ot.toNat + 1) d)) = V d := fun d => by rw [← hV]; rfl
    have hVr : ∀ d : Nat, (d : Int) < (A.1 of.toNat).1 * (A.1 of.toNat).2.1 → 0 ≤ V d ∧ V d ≤ 255 := fun d hd => by have := s1 d hd; have := s2 d hd; rw [← hV']; split <;> omega
    have hVx : ∀ x y : Int, 0 ≤ x ∧ x < (A.1 of.toNat).1 → 0 ≤ y ∧ y < (A.1 of.toNat).2.1 → V (y * (A.1 of.toNat).1 + x).toNat = zab ((A.1 of.toNat).2.2 x y - (A.1 ot.toNat).2.2 x y) := fun x y hx hy => by rw [← hV', (f1 x y hx hy).1, (f2 x y hx hy).1]; rfl
    have E1 : zfold (fun d (n : Int) => n + if 0 < V d then 1 else 0) ((A.1 of.toNat).1 * (A.1 of.toNat).2.1).toNat 0 = zwin 0 (A.1 of.toNat).1 0 (A.1 of.toNat).2.1 (fun x y n => n + if 0 < zab ((A.1 of.toNat).2.2 x y - (A.1 ot.toNat).2.2 x y) then 1 else 0) 0 := zfold_win (by omega) (by omega) (fun x y hx hy m => by rw [hVx x y hx hy]) 0
    have E2 : zfold (fun d (n : Int) => n + V d) ((A.1 of.toNat).1 * (A.1 of.toNat).2.1).toNat 0 = zwin 0 (A.1 of.toNat).1 0 (A.1 of.toNat).2.1 (fun x y n => n + zab ((A.1 of.toNat).2.2 x y - (A.1 ot.toNat).2.2 x y)) 0 := zfold_win (by omega) (by omega) (fun x y hx hy m => by rw [hVx x y hx hy]) 0
    have E3 : zfold (fun d (n : Int) => if n < V d then V d else n) ((A.1 of.toNat).1 * (A.1 of.toNat).2.1).toNat 0 = zwin 0 (A.1 of.toNat).1 0 (A.1 of.toNat).2.1 (fun x y n => if n < zab ((A.1 of.toNat).2.2 x y - (A.1 ot.toNat).2.2 x y) then zab ((A.1 of.toNat).2.2 x y - (A.1 ot.toNat).2.2 x y) else n) 0 := zfold_win (by omega) (by omega) (fun x y hx hy m => by rw [hVx x y hx hy]) 0
    generalize hF1 : (fun (d : Nat) (n : Int) => n + if 0 < V d then (1 : Int) else 0) = F1 at E1
    generalize hF2 : (fun (d : Nat) (n : Int) => n + V d) = F2 at E2
    generalize hF3 : (fun (d : Nat) (n : Int) => if n < V d then V d else n) = F3 at E3
    have loop : ∀ (fu i : Nat), (i : Int) ≤ (A.1 of.toNat).1 * (A.1 of.toNat).2.1 → (A.1 of.toNat).1 * (A.1 of.toNat).2.1 - i < fu → (0 ≤ zfold F3 i 0 ∧ zfold F3 i 0 ≤ 255) → zW G M_X10_apart (xQ B (sp_apart A of ot what)) 64 [some (.ref B), some (vi of), some (vi ot), some (vi what), some (vi (zfold F1 i 0)), some (vi (zfold F2 i 0)), some (vi (zfold F3 i 0)), some (vi i), none] [] (zxS B, σ1, τ) := by
      intro fu
      induction fu with
      | zero => intro i h1 h2; omega
      | succ fu ih =>
        intro i h1 h2 h3
        have g1 : zfold F1 (i + 1) 0 = zfold F1 i 0 + if 0 < V i then 1 else 0 := by subst hF1; rfl
        have g2 : zfold F2 (i + 1) 0 = zfold F2 i 0 + V i := by subst hF2; rfl
        have g3 : zfold F3 (i + 1) 0 = if zfold F3 i 0 < V i then V i else zfold F3 i 0 := by subst hF3; rfl
        refine zw_iload 66 rfl dX10_apart_64 rfl ?_
        refine zw_aload_n 67 rfl dX10_apart_66 rfl ?_
        refine zw_getr 70 rfl dX10_apart_67 fl_X10_11 (by first | assumption | exact zx_o0 | exact zx_o _ _ _ rfl) (by first | assumption | exact zx_f0 _ _ rfl | exact zx_f _ _ _ rfl) ?_
        refine zw_iload_n 71 rfl dX10_apart_70 rfl ?_
        refine zw_aald 72 rfl dX10_apart_71 (by first | assumption | exact zx_o0 | exact zx_o _ _ _ rfl) (by omega) (by omega) (by first | assumption | exact zx_p6r (by omega)) ?_
        refine zw_cVi0 75 rfl dX10_apart_72 kX10_apart_212 (Nat.le_of_ble_eq_true rfl) hq1.1 (c_count hq1) ?_
        rw [hwh.1.1, hwh.1.2]
        refine zw_icmp_ge 145 78 rfl dX10_apart_75 (by decide) (by omega) (by omega) (fun h_75 => ?_) (fun h_75 => ?_)
        · refine zw_iload_n 146 rfl dX10_apart_145 rfl ?_
          refine zw_if_ne 154 149 rfl dX10_apart_146 (by decide) (by omega) (fun h_146 => ?_) (fun h_146 => ?_)
          · refine zw_iload_n 155 rfl dX10_apart_154 rfl ?_
            refine zw_iconst 156 rfl dX10_apart_155 ?_
            refine zw_icmp_ne 164 159 rfl dX10_apart_156 (by decide) (by omega) (by omega) (fun h_156 => ?_) (fun h_156 => ?_)
            · refine zw_iload 166 rfl dX10_apart_164 rfl ?_
              refine zw_iret (st := []) dX10_apart_166 rfl (xRead h (by rw [if_pos hc1, if_pos hc2, if_pos hc3, if_pos hlk]) hs1 rfl h17 ?_ rfl)
              have hi : i = ((A.1 of.toNat).1 * (A.1 of.toNat).2.1).toNat := by omega
              unfold aApart
              first | (rw [if_pos (by omega), hi]; exact E1) | (rw [if_neg (by omega), if_pos (by omega), hi]; exact E2) | (rw [if_neg (by omega), if_neg (by omega), hi]; exact E3)
            · refine zw_iload 161 rfl dX10_apart_159 rfl ?_
              refine zw_goto 166 dX10_apart_161 (by decide) ?_
              refine zw_iret (st := []) dX10_apart_166 rfl (xRead h (by rw [if_pos hc1, if_pos hc2, if_pos hc3, if_pos hlk]) hs1 rfl h17 ?_ rfl)
              have hi : i = ((A.1 of.toNat).1 * (A.1 of.toNat).2.1).toNat := by omega
              unfold aApart
              first | (rw [if_pos (by omega), hi]; exact E1) | (rw [if_neg (by omega), if_pos (by omega), hi]; exact E2) | (rw [if_neg (by omega), if_neg (by omega), hi]; exact E3)
          · refine zw_iload 151 rfl dX10_apart_149 rfl ?_
            refine zw_goto 166 dX10_apart_151 (by decide) ?_
            refine zw_iret (st := []) dX10_apart_166 rfl (xRead h (by rw [if_pos hc1, if_pos hc2, if_pos hc3, if_pos hlk]) hs1 rfl h17 ?_ rfl)
            have hi : i = ((A.1 of.toNat).1 * (A.1 of.toNat).2.1).toNat := by omega
            unfold aApart
            first | (rw [if_pos (by omega), hi]; exact E1) | (rw [if_neg (by omega), if_pos (by omega), hi]; exact E2) | (rw [if_neg (by omega), if_neg (by omega), hi]; exact E3)
        · have t1 := s1 i (by omega)
          have t2 := s2 i (by omega)
          have t3 := hVr i (by omega)
          refine zw_aload_n 79 rfl dX10_apart_78 rfl ?_
          refine zw_getr 82 rfl dX10_apart_79 fl_X10_11 (by first | assumption | exact zx_o0 | exact zx_o _ _ _ rfl) (by first | assumption | exact zx_f0 _ _ rfl | exact zx_f _ _ _ rfl) ?_
          refine zw_iload_n 83 rfl dX10_apart_82 rfl ?_
          refine zw_aald 84 rfl dX10_apart_83 (by first | assumption | exact zx_o0 | exact zx_o _ _ _ rfl) (by omega) (by omega) (by first | assumption | exact zx_p6r (by omega)) ?_
          refine zw_getr 87 rfl dX10_apart_84 fl_X10_198 hq1.1 (by first | exact hq1.2.1 | exact hq2.2.1) ?_
          refine zw_iload 89 rfl dX10_apart_87 rfl ?_
          refine zw_iald 90 rfl dX10_apart_89 hq1.2.2.1 (by omega) (by omega) ?_
          rw [Int.toNat_natCast]
          refine zw_aload_n 91 rfl dX10_apart_90 rfl ?_
          refine zw_getr 94 rfl dX10_apart_91 fl_X10_11 (by first | assumption | exact zx_o0 | exact zx_o _ _ _ rfl) (by first | assumption | exact zx_f0 _ _ rfl | exact zx_f _ _ _ rfl) ?_
          refine zw_iload_n 95 rfl dX10_apart_94 rfl ?_
          refine zw_aald 96 rfl dX10_apart_95 (by first | assumption | exact zx_o0 | exact zx_o _ _ _ rfl) (by omega) (by omega) (by first | assumption | exact zx_p6r (by omega)) ?_
          refine zw_getr 99 rfl dX10_apart_96 fl_X10_198 hq2.1 (by first | exact hq1.2.1 | exact hq2.2.1) ?_
          refine zw_iload 101 rfl dX10_apart_99 rfl ?_
          refine zw_iald 102 rfl dX10_apart_101 hq2.2.2.1 (by omega) (by omega) ?_
          rw [Int.toNat_natCast]
          refine zw_isub 103 rfl dX10_apart_102 ?_
          refine zw_mabs 106 rfl dX10_apart_103 kmX10_337 ⟨Nat.le_of_ble_eq_true rfl, Nat.le_of_ble_eq_true rfl⟩ (by omega) ?_
          rw [hV']
          refine zw_istore 108 rfl dX10_apart_106 (Nat.le_of_ble_eq_true rfl) rfl ?_
          refine zw_iload 110 rfl dX10_apart_108 rfl ?_
          refine zw_iload 112 rfl dX10_apart_110 rfl ?_
          refine zw_if_le 119 115 rfl dX10_apart_112 (by decide) (by omega) (fun h_112 => ?_) (fun h_112 => ?_)
          · refine zw_iconst 120 rfl dX10_apart_119 ?_
            refine zw_iadd 121 rfl dX10_apart_120 ?_
            refine zw_istore 123 rfl dX10_apart_121 (Nat.le_of_ble_eq_true rfl) rfl ?_
            refine zw_iload 125 rfl dX10_apart_123 rfl ?_
            refine zw_iload 127 rfl dX10_apart_125 rfl ?_
            refine zw_iadd 128 rfl dX10_apart_127 ?_
            refine zw_istore 130 rfl dX10_apart_128 (Nat.le_of_ble_eq_true rfl) rfl ?_
            refine zw_iload 132 rfl dX10_apart_130 rfl ?_
            refine zw_iload 134 rfl dX10_apart_132 rfl ?_
            refine zw_mmax 137 rfl dX10_apart_134 kmX10_342 ⟨Nat.le_of_ble_eq_true rfl, Nat.le_of_ble_eq_true rfl⟩ (by omega) (by omega) ?_
            refine zw_istore 139 rfl dX10_apart_137 (Nat.le_of_ble_eq_true rfl) rfl ?_
            refine zw_iinc 142 rfl dX10_apart_139 (Nat.le_of_ble_eq_true rfl) rfl rfl ?_
            refine zw_goto 64 dX10_apart_142 (by decide) ?_
            refine zw_drop 8 ?_
            have ih := ih (i + 1) (by omega) (by omega) (by rw [g3]; split <;> omega)
            rw [g1, g2, g3] at ih
            first | (rw [if_pos (show 0 < V i by omega)] at ih) | (rw [if_neg (show ¬ 0 < V i by omega)] at ih)
            exact ih
          · refine zw_iconst 116 rfl dX10_apart_115 ?_
            refine zw_goto 120 dX10_apart_116 (by decide) ?_
            refine zw_iadd 121 rfl dX10_apart_120 ?_
            refine zw_istore 123 rfl dX10_apart_121 (Nat.le_of_ble_eq_true rfl) rfl ?_
            refine zw_iload 125 rfl dX10_apart_123 rfl ?_
            refine zw_iload 127 rfl dX10_apart_125 rfl ?_
            refine zw_iadd 128 rfl dX10_apart_127 ?_
            refine zw_istore 130 rfl dX10_apart_128 (Nat.le_of_ble_eq_true rfl) rfl ?_
            refine zw_iload 132 rfl dX10_apart_130 rfl ?_
            refine zw_iload 134 rfl dX10_apart_132 rfl ?_
            refine zw_mmax 137 rfl dX10_apart_134 kmX10_342 ⟨Nat.le_of_ble_eq_true rfl, Nat.le_of_ble_eq_true rfl⟩ (by omega) (by omega) ?_
            refine zw_istore 139 rfl dX10_apart_137 (Nat.le_of_ble_eq_true rfl) rfl ?_
            refine zw_iinc 142 rfl dX10_apart_139 (Nat.le_of_ble_eq_true rfl) rfl rfl ?_
            refine zw_goto 64 dX10_apart_142 (by decide) ?_
            refine zw_drop 8 ?_
            have ih := ih (i + 1) (by omega) (by omega) (by rw [g3]; split <;> omega)
            rw [g1, g2, g3] at ih
            first | (rw [if_pos (show 0 < V i by omega)] at ih) | (rw [if_neg (show ¬ 0 < V i by omega)] at ih)
            exact ih
    refine zw_iconst 53 rfl dX10_apart_52 ?_
    refine zw_istore 55 rfl dX10_apart_53 (Nat.le_of_ble_eq_true rfl) rfl ?_
    refine zw_iconst 56 rfl dX10_apart_55 ?_
    refine zw_istore 58 rfl dX10_apart_56 (Nat.le_of_ble_eq_true rfl) rfl ?_
    refine zw_iconst 59 rfl dX10_apart_58 ?_
    refine zw_istore 61 rfl dX10_apart_59 (Nat.le_of_ble_eq_true rfl) rfl ?_
    refine zw_iconst 62 rfl dX10_apart_61 ?_
    refine zw_istore 64 rfl dX10_apart_62 (Nat.le_of_ble_eq_true rfl) rfl ?_
    exact loop (((A.1 of.toNat).1 * (A.1 of.toNat).2.1).toNat + 1) 0 (by omega) (by omega) (by simp [zfold])
  have J : ∀ v : Int, v = (if aTold A of then if aTold A ot then if 0 ≤ what ∧ what ≤ 2 then if aLike A of ot then 0 else 5 else 1 else 1 else 1) → zW G M_X10_apart (xQ B (sp_apart A of ot what)) 44 [some (.ref B), some (vi of), some (vi ot), some (vi what), none, none, none, none, none] [vi v, .ref B] (zxS B, σ, τ) := by
    intro v hv

    refine zw_cVi1 47 rfl dX10_apart_44 kX10_apart_105 (Nat.le_of_ble_eq_true rfl) (by first | assumption | exact zx_o0 | exact zx_o _ _ _ rfl) (c_refused (by rw [hv]; (repeat' split) <;> omega)) ?_
    refine zw_if_eqB 52 50 rfl dX10_apart_47 (by decide) (fun h_47 => ?_) (fun h_47 => ?_)
    · have hc1 : aTold A of := Decidable.byContradiction fun q => by rw [if_neg q] at hv; (try split at hv) <;> omega
      rw [if_pos hc1] at hv
      have hc2 : aTold A ot := Decidable.byContradiction fun q => by rw [if_neg q] at hv; (try split at hv) <;> omega
      rw [if_pos hc2] at hv
      have hc3 : 0 ≤ what ∧ what ≤ 2 := Decidable.byContradiction fun q => by rw [if_neg q] at hv; (try split at hv) <;> omega
      rw [if_pos hc3] at hv
      have hc4 : aLike A of ot := Decidable.byContradiction fun q => by rw [if_neg q] at hv; (try split at hv) <;> omega
      rw [if_pos hc4] at hv
      subst hv
      exact body hc1 hc2 hc3 hc4
    · refine zw_iconst 51 rfl dX10_apart_50 ?_
      subst hv
      exact zw_iret (st := []) dX10_apart_51 rfl (xRef h h_47 (by (repeat' split) <;> omega))
  refine zw_aload_n 1 rfl dX10_apart_0 rfl ?_
  refine zw_aload_n 2 rfl dX10_apart_1 rfl ?_
  refine zw_iload_n 3 rfl dX10_apart_2 rfl ?_
  refine zw_cVi1 6 rfl dX10_apart_3 kX10_apart_145 (Nat.le_of_ble_eq_true rfl) (by first | assumption | exact zx_o0 | exact zx_o _ _ _ rfl) (c_told h.p hof) ?_
  refine zw_if_eqB 26 9 rfl dX10_apart_6 (by decide) (fun h_6 => ?_) (fun h_6 => ?_)
  · refine zw_iconst 27 rfl dX10_apart_26 ?_
    refine zw_goto 44 dX10_apart_27 (by decide) ?_
    exact J _ (by first | (simp only [if_neg h_6]; done) | (simp only [if_pos h_6, if_pos h_14, if_pos h_23]; rw [if_pos h_36.2.2]) | (simp only [if_pos h_6, if_pos h_14, if_pos h_23]; rw [if_neg (fun q => h_36 ⟨h_6, h_14, q⟩)]))
  · refine zw_aload_n 10 rfl dX10_apart_9 rfl ?_
    refine zw_iload_n 11 rfl dX10_apart_10 rfl ?_
    refine zw_cVi1 14 rfl dX10_apart_11 kX10_apart_145 (Nat.le_of_ble_eq_true rfl) (by first | assumption | exact zx_o0 | exact zx_o _ _ _ rfl) (c_told h.p hot) ?_
    refine zw_if_eqB 26 17 rfl dX10_apart_14 (by decide) (fun h_14 => ?_) (fun h_14 => ?_)
    · refine zw_iconst 27 rfl dX10_apart_26 ?_
      refine zw_goto 44 dX10_apart_27 (by decide) ?_
      exact J _ (by first | (simp only [if_pos h_6, if_neg h_14]; done) | (simp only [if_pos h_6, if_pos h_14, if_pos h_23]; rw [if_pos h_36.2.2]) | (simp only [if_pos h_6, if_pos h_14, if_pos h_23]; rw [if_neg (fun q => h_36 ⟨h_6, h_14, q⟩)]))
    · refine zw_iload_n 18 rfl dX10_apart_17 rfl ?_
      refine zw_iconst 19 rfl dX10_apart_18 ?_
      refine zw_iconst 20 rfl dX10_apart_19 ?_
      refine zw_cSi3 23 rfl dX10_apart_20 kX10_apart_101 (Nat.le_of_ble_eq_true rfl) (c_within (by omega) (by omega) (by omega)) ?_
      refine zw_if_neB 30 26 rfl dX10_apart_23 (by decide) (fun h_23 => ?_) (fun h_23 => ?_)
      · refine zw_aload_n 31 rfl dX10_apart_30 rfl ?_
        refine zw_iload_n 32 rfl dX10_apart_31 rfl ?_
        refine zw_iload_n 33 rfl dX10_apart_32 rfl ?_
        refine zw_cVi2 36 rfl dX10_apart_33 kX10_apart_231 (Nat.le_of_ble_eq_true rfl) (by first | assumption | exact zx_o0 | exact zx_o _ _ _ rfl) (c_alike h.p hof hot) ?_
        refine zw_if_neB 43 39 rfl dX10_apart_36 (by decide) (fun h_36 => ?_) (fun h_36 => ?_)
        · refine zw_iconst 44 rfl dX10_apart_43 ?_
          exact J _ (by first | (simp only [if_pos h_6, if_pos h_14, if_pos h_23, if_pos h_36]; done) | (simp only [if_pos h_6, if_pos h_14, if_pos h_23]; rw [if_pos h_36.2.2]) | (simp only [if_pos h_6, if_pos h_14, if_pos h_23]; rw [if_neg (fun q => h_36 ⟨h_6, h_14, q⟩)]))
        · refine zw_iconst 40 rfl dX10_apart_39 ?_
          refine zw_goto 44 dX10_apart_40 (by decide) ?_
          exact J _ (by first | (simp only [if_pos h_6, if_pos h_14, if_pos h_23, if_neg h_36]; done) | (simp only [if_pos h_6, if_pos h_14, if_pos h_23]; rw [if_pos h_36.2.2]) | (simp only [if_pos h_6, if_pos h_14, if_pos h_23]; rw [if_neg (fun q => h_36 ⟨h_6, h_14, q⟩)]))
      · refine zw_iconst 27 rfl dX10_apart_26 ?_
        refine zw_goto 44 dX10_apart_27 (by decide) ?_
        exact J _ (by first | (simp only [if_pos h_6, if_pos h_14, if_neg h_23]; done) | (simp only [if_pos h_6, if_pos h_14, if_pos h_23]; rw [if_pos h_36.2.2]) | (simp only [if_pos h_6, if_pos h_14, if_pos h_23]; rw [if_neg (fun q => h_36 ⟨h_6, h_14, q⟩)]))
/-! ===== what is told ===== -/
theorem X_fault {G : zG} {B : Nat} {σ τ : zSt} {A : zA} (h : zxR B σ τ A) : zC G M_X10_fault [.ref B] (zxS B, σ, τ) (xQ B (aFa A, A)) := by
  refine zC_of 0 rfl (Nat.le_of_ble_eq_true rfl) ?_
  refine zw_aload_n 1 rfl dX10_fault_0 rfl ?_
  refine zw_geti 4 rfl dX10_fault_1 fl_X10_113 (by first | assumption | exact zx_o0 | exact zx_o _ _ _ rfl) ?_
  exact zw_iret (st := []) dX10_fault_4 rfl ⟨by rw [h.2.2.2.1.2.2.1], _, _, rfl, h⟩
theorem X_trouble {G : zG} {B : Nat} {σ τ : zSt} {A : zA} (h : zxR B σ τ A) : zC G M_X10_trouble [.ref B] (zxS B, σ, τ) (xQ B (aTr A, A)) := by
  refine zC_of 0 rfl (Nat.le_of_ble_eq_true rfl) ?_
  refine zw_aload_n 1 rfl dX10_trouble_0 rfl ?_
  refine zw_geti 4 rfl dX10_trouble_1 fl_X10_128 (by first | assumption | exact zx_o0 | exact zx_o _ _ _ rfl) ?_
  exact zw_iret (st := []) dX10_trouble_4 rfl ⟨by rw [h.2.2.2.1.1], _, _, rfl, h⟩
theorem X_bytes {G : zG} {B : Nat} {σ τ : zSt} {A : zA} (h : zxR B σ τ A) : zC G M_X10_bytes [.ref B] (zxS B, σ, τ) (xQ B ((aT A).length, A)) := by
  refine zC_of 0 rfl (Nat.le_of_ble_eq_true rfl) ?_
  refine zw_aload_n 1 rfl dX10_bytes_0 rfl ?_
  refine zw_getr 4 rfl dX10_bytes_1 fl_X10_33 (by first | assumption | exact zx_o0 | exact zx_o _ _ _ rfl) (by first | assumption | exact zx_f0 _ _ rfl | exact zx_f _ _ _ rfl) ?_
  refine zw_geti 7 rfl dX10_bytes_4 fl_X10_93 (by first | assumption | exact zx_o0 | exact zx_o _ _ _ rfl) ?_
  exact zw_iret (st := []) dX10_bytes_7 rfl ⟨by rw [h.2.2.1.1], _, _, rfl, h⟩
theorem X_where {G : zG} {B : Nat} {σ τ : zSt} {A : zA} (h : zxR B σ τ A) : zC G M_X10_where [.ref B] (zxS B, σ, τ) (xQ B (aWa A, A)) := by
  have h4 := h.2.2.2.1
  refine zC_of 0 rfl (Nat.le_of_ble_eq_true rfl) ?_
  refine zw_aload_n 1 rfl dX10_where_0 rfl ?_
  refine zw_geti 4 rfl dX10_where_1 fl_X10_128 (by first | assumption | exact zx_o0 | exact zx_o _ _ _ rfl) ?_
  refine zw_iconst 5 rfl dX10_where_4 ?_
  rw [h4.1]
  refine zw_icmp_ne 15 8 rfl dX10_where_5 (by decide) h4.2.2.2 (by omega) (fun h_5 => ?_) (fun h_5 => ?_)
  · refine zw_iconst 16 rfl dX10_where_15 ?_
    exact zw_iret (st := []) dX10_where_16 rfl ⟨by rw [h4.2.1]; first | (rw [if_pos h_5]) | (rw [if_neg h_5]), _, _, rfl, h⟩
  · refine zw_aload_n 9 rfl dX10_where_8 rfl ?_
    refine zw_geti 12 rfl dX10_where_9 fl_X10_119 (by first | assumption | exact zx_o0 | exact zx_o _ _ _ rfl) ?_
    refine zw_goto 16 dX10_where_12 (by decide) ?_
    exact zw_iret (st := []) dX10_where_16 rfl ⟨by rw [h4.2.1]; first | (rw [if_pos h_5]) | (rw [if_neg h_5]), _, _, rfl, h⟩
def sp_octet (A : zA) (k : Int) : Int × zA := (if 0 ≤ k ∧ k ≤ (aI A).length - 1 then (aI A).getD k.toNat 0 else -1, A)
theorem X_octet {G : zG} {B : Nat} {σ τ : zSt} {A : zA} {k : Int} (h : zxR B σ τ A) (hk : -2147483648 ≤ k ∧ k ≤ 2147483647) : zC G M_X10_octet [.ref B, vi k] (zxS B, σ, τ) (xQ B (sp_octet A k)) := by
  obtain ⟨i1, i2, i3⟩ := h.2.2.2.2.2.2
  refine zC_of 0 rfl (Nat.le_of_ble_eq_true rfl) ?_
  refine zw_iload_n 1 rfl dX10_octet_0 rfl ?_
  refine zw_iconst 2 rfl dX10_octet_1 ?_
  refine zw_aload_n 3 rfl dX10_octet_2 rfl ?_
  refine zw_geti 6 rfl dX10_octet_3 fl_X10_383 (by first | assumption | exact zx_o0 | exact zx_o _ _ _ rfl) ?_
  refine zw_iconst 7 rfl dX10_octet_6 ?_
  refine zw_isub 8 rfl dX10_octet_7 ?_
  refine zw_cSi3 11 rfl dX10_octet_8 kX10_octet_101 (Nat.le_of_ble_eq_true rfl) (c_within (by omega) (by omega) (by rw [i1]; omega)) ?_
  rw [i1]
  refine zw_if_eqB 30 14 rfl dX10_octet_11 (by decide) (fun h_11 => ?_) (fun h_11 => ?_)
  · refine zw_iconst 31 rfl dX10_octet_30 ?_
    exact zw_iret (st := []) dX10_octet_31 rfl ⟨by unfold sp_octet; first | (rw [if_neg h_11]) | (exfalso; omega) | (rw [if_pos h_11, i3 k.toNat (by omega)]), _, _, rfl, h⟩
  · refine zw_iload_n 15 rfl dX10_octet_14 rfl ?_
    refine zw_sipush 18 rfl dX10_octet_15 rfl ?_
    refine zw_icmp_ge 30 21 rfl dX10_octet_18 (by decide) (by omega) (by omega) (fun h_18 => ?_) (fun h_18 => ?_)
    · refine zw_iconst 31 rfl dX10_octet_30 ?_
      exact zw_iret (st := []) dX10_octet_31 rfl ⟨by unfold sp_octet; first | (rw [if_neg h_11]) | (exfalso; omega) | (rw [if_pos h_11, i3 k.toNat (by omega)]), _, _, rfl, h⟩
    · refine zw_aload_n 22 rfl dX10_octet_21 rfl ?_
      refine zw_getr 25 rfl dX10_octet_22 fl_X10_89 (by first | assumption | exact zx_o0 | exact zx_o _ _ _ rfl) (by first | assumption | exact zx_f0 _ _ rfl | exact zx_f _ _ _ rfl) ?_
      refine zw_iload_n 26 rfl dX10_octet_25 rfl ?_
      refine zw_iald 27 rfl dX10_octet_26 (by first | assumption | exact zx_o0 | exact zx_o _ _ _ rfl) (by omega) (by omega) ?_
      refine zw_goto 31 dX10_octet_27 (by decide) ?_
      exact zw_iret (st := []) dX10_octet_31 rfl ⟨by unfold sp_octet; first | (rw [if_neg h_11]) | (exfalso; omega) | (rw [if_pos h_11, i3 k.toNat (by omega)]), _, _, rfl, h⟩
/-! ===== write ===== -/
def aInkR (p : zPc) (y : Int) (l : List Int) : List Int := zfold (fun i l => l ++ [97 + znear (p.2.2 i y) 17]) p.1.toNat l
def aInk (p : zPc) : List Int := zfold (fun j l => aInkR p j (if 0 < j then l ++ [47] else l)) p.2.1.toNat []
def sp_write (A : zA) (of : Int) : Int × zA := aAns (if aTold A of then 0 else 1) (-1) A ((aInk (A.1 of.toNat)).length, (A.1, A.2.1, A.2.2.1, A.2.2.2.1, A.2.2.2.2.1, A.2.2.2.2.2.1, aInk (A.1 of.toNat)))
def xWI (B : Nat) (σ1 : zSt) (l : List Int) (σs : zSt) : Prop := (∀ b, b ≠ B → b ≠ B + 73 → σs b = σ1 b) ∧ (∀ k, k ≠ 14 → σs B k = σ1 B k) ∧ xrI B σs l
theorem c_writeByte {G : zG} {B : Nat} {σ τ : zSt} {v : Int} {σ1 : zSt} {l : List Int} (hl : xWI B σ1 l σ) (hn : l.length < 203) : zC G M_X10_writeByte [.ref B, vi v] (zxS B, σ, τ) (fun r w => r = none ∧ ∃ σ' : zSt, w = (zxS B, σ', τ) ∧ xWI B σ1 (l ++ [v]) σ') := by
  obtain ⟨a1, a2, b1, b2, b3⟩ := hl
  have e1 : zu σ (B + 73) l.length v B = σ B := zu_row _ _ (by omega)
  refine zC_of 0 rfl (Nat.le_of_ble_eq_true rfl) ?_
  have K30 : zW G M_X10_writeByte (fun r w => r = none ∧ ∃ σ' : zSt, w = (zxS B, σ', τ) ∧ xWI B σ1 (l ++ [v]) σ') 30 [some (.ref B), some (vi v)] [] (zxS B, zu (zu σ (B + 73) l.length v) B 14 (l.length + 1), τ) := by
    refine zw_vret (st := []) dX10_writeByte_30 rfl ⟨rfl, _, rfl, ⟨fun b h1 h2 => by rw [zu_row _ _ h1, zu_row _ _ h2]; exact a1 b h1 h2, fun k hk => by rw [zu_k _ _ hk, e1]; exact a2 k hk, by rw [zu_eq]; simp, by simp; omega, fun i hi => ?_⟩⟩
    rw [zu_row _ _ (by omega)]
    simp only [List.length_append, List.length_cons, List.length_nil] at hi
    by_cases e : i = l.length
    · subst e; rw [zu_eq]; simp
    · rw [zu_k _ _ e, b3 i (by omega)]; simp [List.getD, List.getElem?_append_left (show i < l.length by omega)]
  refine zw_aload_n 1 rfl dX10_writeByte_0 rfl ?_
  refine zw_geti 4 rfl dX10_writeByte_1 fl_X10_383 (by first | assumption | exact zx_o0 | exact zx_o _ _ _ rfl) ?_
  refine zw_sipush 7 rfl dX10_writeByte_4 rfl ?_
  rw [b1]
  refine zw_icmp_ge 30 10 rfl dX10_writeByte_7 (by decide) (by omega) (by omega) (fun h_7 => ?_) (fun h_7 => ?_)
  · first | (exfalso; omega) | exact K30
  · refine zw_aload_n 11 rfl dX10_writeByte_10 rfl ?_
    refine zw_getr 14 rfl dX10_writeByte_11 fl_X10_89 (by first | assumption | exact zx_o0 | exact zx_o _ _ _ rfl) (by first | assumption | exact zx_f0 _ _ rfl | exact zx_f _ _ _ rfl) ?_
    refine zw_aload_n 15 rfl dX10_writeByte_14 rfl ?_
    refine zw_geti 18 rfl dX10_writeByte_15 fl_X10_383 (by first | assumption | exact zx_o0 | exact zx_o _ _ _ rfl) ?_
    rw [b1]
    refine zw_iload_n 19 rfl dX10_writeByte_18 rfl ?_
    refine zw_iast 20 rfl dX10_writeByte_19 (by first | assumption | exact zx_o0 | exact zx_o _ _ _ rfl) (by omega) (by omega) ?_
    rw [Int.toNat_natCast]
    refine zw_aload_n 21 rfl dX10_writeByte_20 rfl ?_
    refine zw_dup 22 rfl dX10_writeByte_21 rfl ?_
    refine zw_geti 25 rfl dX10_writeByte_22 fl_X10_383 (by first | assumption | exact zx_o0 | exact zx_o _ _ _ rfl) ?_
    rw [e1, b1]
    refine zw_iconst 26 rfl dX10_writeByte_25 ?_
    refine zw_iadd 27 rfl dX10_writeByte_26 ?_
    refine zw_puti 30 rfl dX10_writeByte_27 fp_X10_383 (by first | assumption | exact zx_o0 | exact zx_o _ _ _ rfl) ?_
    first | (exfalso; omega) | exact K30
theorem aInkR_len (p : zPc) (y : Int) : ∀ (n : Nat) (l : List Int), (zfold (fun (i : Nat) (l : List Int) => l ++ [97 + znear (p.2.2 i y) 17]) n l).length = l.length + n
  | 0, l => rfl
  | n + 1, l => by simp only [zfold, List.length_append, List.length_cons, List.length_nil]; rw [aInkR_len p y n l]; omega
