theorem xRM.scr {B : Nat} {σ σs : zSt} {p : zPc} {s : zRm} {v : Int} (hm : xRM B (zu σ B 17 v) p s σs) : xScr B σ σs := (xScr.z (v := v)).tr ⟨fun k hk => by rw [hm.1 B (by omega)], fun b h1 h2 h3 => hm.1 b (by omega)⟩
theorem rFind_J {p : zPc} {t : Int} (hp : (1 ≤ p.1 ∧ p.1 ≤ 16) ∧ 1 ≤ p.2.1 ∧ p.2.1 ≤ 12) : rJ p (p.2.1.toNat * p.1.toNat) (rFind p t) := by
  have hnn := zz_nn hp.1 hp.2
  have key : ∀ n : Nat, n ≤ p.2.1.toNat → rJ p (n * p.1.toNat) (zfold (fun (j : Nat) => zfold (fun (i : Nat) => rStep p t (0 + i) (0 + j)) (p.1 - 0).toNat) n (fun _ _ => -1, 0)) := by
    intro n
    induction n with
    | zero => intro _; exact ⟨by simp [zfold], fun x y hxy => by simp [zfold], fun x y => by simp [zfold]⟩
    | succ n ih =>
      intro hn
      have h1 := ih (by omega)
      simp only [zfold]
      generalize zfold (fun (j : Nat) => zfold (fun (i : Nat) => rStep p t (0 + i) (0 + j)) (p.1 - 0).toNat) n (fun _ _ => -1, 0) = s at h1
      have key2 : ∀ m : Nat, m ≤ p.1.toNat → rJ p (n * p.1.toNat + m) (zfold (fun (i : Nat) => rStep p t (0 + i) (0 + n)) m s) := by
        intro m
        induction m with
        | zero => intro _; exact h1
        | succ m ih2 =>
          intro hm
          have h2 : (n + 1) * p.1.toNat ≤ p.2.1.toNat * p.1.toNat := Nat.mul_le_mul_right _ (by omega)
          rw [Nat.succ_mul] at h2
          exact (ih2 (by omega)).step (by omega)
      rw [show (p.1 - 0).toNat = p.1.toNat by omega, Nat.succ_mul]
      exact key2 _ (Nat.le_refl _)
  have := key p.2.1.toNat (Nat.le_refl _)
  unfold rFind zwin
  rw [show (p.2.1 - 0).toNat = p.2.1.toNat by omega]
  exact this
def sp_regions (A : zA) (of t : Int) : Int × zA := aAns (if aTold A of then if 0 ≤ t ∧ t ≤ 255 then 0 else 2 else 1) (-1) A ((rFind (A.1 of.toNat) t).2, A)
theorem X_regions {G : zG} {B : Nat} {σ τ : zSt} {A : zA} {of t : Int} (h : zxR B σ τ A) (hof : -2147483648 ≤ of ∧ of ≤ 2147483647) (ht : -2147483648 ≤ t ∧ t ≤ 2147483647) : zC G M_X10_regions [.ref B, vi of, vi t] (zxS B, σ, τ) (xQ B (sp_regions A of t)) := by
  refine zC_of 0 rfl (Nat.le_of_ble_eq_true rfl) ?_
  have J : ∀ v : Int, v = (if aTold A of then if 0 ≤ t ∧ t ≤ 255 then 0 else 2 else 1) → zW G M_X10_regions (xQ B (sp_regions A of t)) 25 [some (.ref B), some (vi of), some (vi t)] [vi v, .ref B] (zxS B, σ, τ) := by
    intro v hv

    refine zw_cVi1 28 rfl dX10_regions_25 kX10_regions_105 (Nat.le_of_ble_eq_true rfl) (by first | assumption | exact zx_o0 | exact zx_o _ _ _ rfl) (c_refused (by rw [hv]; (repeat' split) <;> omega)) ?_
    refine zw_if_eqB 33 31 rfl dX10_regions_28 (by decide) (fun h_28 => ?_) (fun h_28 => ?_)
    · have hc1 : aTold A of := Decidable.byContradiction fun q => by rw [if_neg q] at hv; (try split at hv) <;> omega
      rw [if_pos hc1] at hv
      have hc2 : 0 ≤ t ∧ t ≤ 255 := Decidable.byContradiction fun q => by rw [if_neg q] at hv; (try split at hv) <;> omega
      rw [if_pos hc2] at hv
      subst hv
      have hP1 := (xScr.z (v := 0)).P h.p of.toNat (by omega)
      have hq6 := (zx_p6 (B := B) (i := of.toNat) (by omega))
      have hwh := hP1.wh hc1.2
      refine zw_aload_n 34 rfl dX10_regions_33 rfl ?_
      refine zw_getr 37 rfl dX10_regions_34 fl_X10_78 (by first | assumption | exact zx_o0 | exact zx_o _ _ _ rfl) (by first | assumption | exact zx_f0 _ _ rfl | exact zx_f _ _ _ rfl) ?_
      refine zw_aload_n 38 rfl dX10_regions_37 rfl ?_
      refine zw_getr 41 rfl dX10_regions_38 fl_X10_11 (by first | assumption | exact zx_o0 | exact zx_o _ _ _ rfl) (by first | assumption | exact zx_f0 _ _ rfl | exact zx_f _ _ _ rfl) ?_
      refine zw_iload_n 42 rfl dX10_regions_41 rfl ?_
      refine zw_aald 43 rfl dX10_regions_42 (by first | assumption | exact zx_o0 | exact zx_o _ _ _ rfl) (by omega) (by omega) (by first | assumption | exact zx_p6r (by omega)) ?_
      refine zw_iload_n 44 rfl dX10_regions_43 rfl ?_
      refine zw_cVr2 47 rfl dX10_regions_44 kX10_regions_345 (Nat.le_of_ble_eq_true rfl) (by first | assumption | exact zx_o0 | exact zx_o _ _ _ rfl) (c_findIn hq6 hP1 hc1.2 (by simp only [zpa]; omega) hc2) ?_
      rintro _ _ ⟨rfl, σ2, rfl, hm⟩
      refine zw_aload_n 48 rfl dX10_regions_47 rfl ?_
      refine zw_getr 51 rfl dX10_regions_48 fl_X10_78 (by first | assumption | exact zx_o0 | exact zx_o _ _ _ rfl) (by first | assumption | exact zx_f0 _ _ rfl | exact zx_f _ _ _ rfl) ?_
      refine zw_geti 54 rfl dX10_regions_51 fl_X10_348 (by first | assumption | exact zx_o0 | exact zx_o _ _ _ rfl) ?_
      exact zw_iret (st := []) dX10_regions_54 rfl (xRead h (by simp only [if_pos hc1, if_pos hc2]) hm.scr rfl (by rw [hm.1 B (by omega), zu_eq]) hm.2.2 rfl)
    · refine zw_iconst 32 rfl dX10_regions_31 ?_
      subst hv
      exact zw_iret (st := []) dX10_regions_32 rfl (xRef h h_28 (by (repeat' split) <;> omega))
  refine zw_aload_n 1 rfl dX10_regions_0 rfl ?_
  refine zw_aload_n 2 rfl dX10_regions_1 rfl ?_
  refine zw_iload_n 3 rfl dX10_regions_2 rfl ?_
  refine zw_cVi1 6 rfl dX10_regions_3 kX10_regions_145 (Nat.le_of_ble_eq_true rfl) (by first | assumption | exact zx_o0 | exact zx_o _ _ _ rfl) (c_told h.p hof) ?_
  refine zw_if_neB 13 9 rfl dX10_regions_6 (by decide) (fun h_6 => ?_) (fun h_6 => ?_)
  · refine zw_iload_n 14 rfl dX10_regions_13 rfl ?_
    refine zw_cSi1 17 rfl dX10_regions_14 kX10_regions_178 (Nat.le_of_ble_eq_true rfl) (c_isShade ht) ?_
    refine zw_if_neB 24 20 rfl dX10_regions_17 (by decide) (fun h_17 => ?_) (fun h_17 => ?_)
    · refine zw_iconst 25 rfl dX10_regions_24 ?_
      exact J _ (by simp only [if_pos h_6, if_pos h_17])
    · refine zw_iconst 21 rfl dX10_regions_20 ?_
      refine zw_goto 25 dX10_regions_21 (by decide) ?_
      exact J _ (by simp only [if_pos h_6, if_neg h_17])
  · refine zw_iconst 10 rfl dX10_regions_9 ?_
    refine zw_goto 25 dX10_regions_10 (by decide) ?_
    exact J _ (by simp only [if_neg h_6])
def sp_regionAt (A : zA) (of t x y : Int) : Int × zA := aAns (if aDot A of x y then if 0 ≤ t ∧ t ≤ 255 then 0 else 2 else 1) (-1) A ((rFind (A.1 of.toNat) t).1 x y, A)
theorem X_regionAt {G : zG} {B : Nat} {σ τ : zSt} {A : zA} {of t x y : Int} (h : zxR B σ τ A) (hof : -2147483648 ≤ of ∧ of ≤ 2147483647) (ht : -2147483648 ≤ t ∧ t ≤ 2147483647) (hx : -2147483648 ≤ x ∧ x ≤ 2147483647) (hy : -2147483648 ≤ y ∧ y ≤ 2147483647) : zC G M_X10_regionAt [.ref B, vi of, vi t, vi x, vi y] (zxS B, σ, τ) (xQ B (sp_regionAt A of t x y)) := by
  refine zC_of 0 rfl (Nat.le_of_ble_eq_true rfl) ?_
  have J : ∀ v : Int, v = (if aDot A of x y then if 0 ≤ t ∧ t ≤ 255 then 0 else 2 else 1) → zW G M_X10_regionAt (xQ B (sp_regionAt A of t x y)) 28 [some (.ref B), some (vi of), some (vi t), some (vi x), some (vi y)] [vi v, .ref B] (zxS B, σ, τ) := by
    intro v hv

    refine zw_cVi1 31 rfl dX10_regionAt_28 kX10_regionAt_105 (Nat.le_of_ble_eq_true rfl) (by first | assumption | exact zx_o0 | exact zx_o _ _ _ rfl) (c_refused (by rw [hv]; (repeat' split) <;> omega)) ?_
    refine zw_if_eqB 36 34 rfl dX10_regionAt_31 (by decide) (fun h_31 => ?_) (fun h_31 => ?_)
    · have hc1 : aDot A of x y := Decidable.byContradiction fun q => by rw [if_neg q] at hv; (try split at hv) <;> omega
      rw [if_pos hc1] at hv
      have hc2 : 0 ≤ t ∧ t ≤ 255 := Decidable.byContradiction fun q => by rw [if_neg q] at hv; (try split at hv) <;> omega
      rw [if_pos hc2] at hv
      subst hv
      have hP1 := (xScr.z (v := 0)).P h.p of.toNat (by omega)
      have hq6 := (zx_p6 (B := B) (i := of.toNat) (by omega))
      have hwh := hP1.wh hc1.1.2
      refine zw_aload_n 37 rfl dX10_regionAt_36 rfl ?_
      refine zw_getr 40 rfl dX10_regionAt_37 fl_X10_78 (by first | assumption | exact zx_o0 | exact zx_o _ _ _ rfl) (by first | assumption | exact zx_f0 _ _ rfl | exact zx_f _ _ _ rfl) ?_
      refine zw_aload_n 41 rfl dX10_regionAt_40 rfl ?_
      refine zw_getr 44 rfl dX10_regionAt_41 fl_X10_11 (by first | assumption | exact zx_o0 | exact zx_o _ _ _ rfl) (by first | assumption | exact zx_f0 _ _ rfl | exact zx_f _ _ _ rfl) ?_
      refine zw_iload_n 45 rfl dX10_regionAt_44 rfl ?_
      refine zw_aald 46 rfl dX10_regionAt_45 (by first | assumption | exact zx_o0 | exact zx_o _ _ _ rfl) (by omega) (by omega) (by first | assumption | exact zx_p6r (by omega)) ?_
      refine zw_iload_n 47 rfl dX10_regionAt_46 rfl ?_
      refine zw_cVr2 50 rfl dX10_regionAt_47 kX10_regionAt_345 (Nat.le_of_ble_eq_true rfl) (by first | assumption | exact zx_o0 | exact zx_o _ _ _ rfl) (c_findIn hq6 hP1 hc1.1.2 (by simp only [zpa]; omega) hc2) ?_
      rintro _ _ ⟨rfl, σ2, rfl, hm⟩
      have hP2 := hm.scr.P h.p of.toNat (by omega)
      have hw2 := hP2.wh hc1.1.2
      have i1 := zz_ix hc1.2.1 hc1.2.2 hwh.2.1.2 hwh.2.2.2
      refine zw_aload_n 51 rfl dX10_regionAt_50 rfl ?_
      refine zw_getr 54 rfl dX10_regionAt_51 fl_X10_78 (by first | assumption | exact zx_o0 | exact zx_o _ _ _ rfl) (by first | assumption | exact zx_f0 _ _ rfl | exact zx_f _ _ _ rfl) ?_
      refine zw_getr 57 rfl dX10_regionAt_54 fl_X10_353 (by first | assumption | exact zx_o0 | exact zx_o _ _ _ rfl) (by first | assumption | exact zx_f0 _ _ rfl | exact zx_f _ _ _ rfl) ?_
      refine zw_aload_n 58 rfl dX10_regionAt_57 rfl ?_
      refine zw_getr 61 rfl dX10_regionAt_58 fl_X10_11 (by first | assumption | exact zx_o0 | exact zx_o _ _ _ rfl) (by first | assumption | exact zx_f0 _ _ rfl | exact zx_f _ _ _ rfl) ?_
      refine zw_iload_n 62 rfl dX10_regionAt_61 rfl ?_
      refine zw_aald 63 rfl dX10_regionAt_62 (by first | assumption | exact zx_o0 | exact zx_o _ _ _ rfl) (by omega) (by omega) (by first | assumption | exact zx_p6r (by omega)) ?_
      refine zw_iload_n 64 rfl dX10_regionAt_63 rfl ?_
      refine zw_iload 66 rfl dX10_regionAt_64 rfl ?_
      refine zw_cVi2 69 rfl dX10_regionAt_66 kX10_regionAt_356 (Nat.le_of_ble_eq_true rfl) hq6.1 (c_indexOf hq6 hP2.1 hx hy) ?_
      rw [if_pos (by rw [zHas, hw2.1.1, hw2.1.2]; exact hc1.2), hw2.1.1]
      refine zw_iald 70 rfl dX10_regionAt_69 (by first | assumption | exact zx_o0 | exact zx_o _ _ _ rfl) (by omega) (by omega) ?_
      exact zw_iret (st := []) dX10_regionAt_70 rfl (xRead h (by simp only [if_pos hc1, if_pos hc2]) hm.scr rfl (by rw [hm.1 B (by omega), zu_eq]) (hm.2.1 x y hc1.2) rfl)
    · refine zw_iconst 35 rfl dX10_regionAt_34 ?_
      subst hv
      exact zw_iret (st := []) dX10_regionAt_35 rfl (xRef h h_31 (by (repeat' split) <;> omega))
  refine zw_aload_n 1 rfl dX10_regionAt_0 rfl ?_
  refine zw_aload_n 2 rfl dX10_regionAt_1 rfl ?_
  refine zw_iload_n 3 rfl dX10_regionAt_2 rfl ?_
  refine zw_iload_n 4 rfl dX10_regionAt_3 rfl ?_
  refine zw_iload 6 rfl dX10_regionAt_4 rfl ?_
  refine zw_cVi3 9 rfl dX10_regionAt_6 kX10_regionAt_171 (Nat.le_of_ble_eq_true rfl) (by first | assumption | exact zx_o0 | exact zx_o _ _ _ rfl) (c_hasDot h.p hof hx hy) ?_
  refine zw_if_neB 16 12 rfl dX10_regionAt_9 (by decide) (fun h_9 => ?_) (fun h_9 => ?_)
  · refine zw_iload_n 17 rfl dX10_regionAt_16 rfl ?_
    refine zw_cSi1 20 rfl dX10_regionAt_17 kX10_regionAt_178 (Nat.le_of_ble_eq_true rfl) (c_isShade ht) ?_
    refine zw_if_neB 27 23 rfl dX10_regionAt_20 (by decide) (fun h_20 => ?_) (fun h_20 => ?_)
    · refine zw_iconst 28 rfl dX10_regionAt_27 ?_
      exact J _ (by simp only [if_pos h_9, if_pos h_20])
    · refine zw_iconst 24 rfl dX10_regionAt_23 ?_
      refine zw_goto 28 dX10_regionAt_24 (by decide) ?_
      exact J _ (by simp only [if_pos h_9, if_neg h_20])
  · refine zw_iconst 13 rfl dX10_regionAt_12 ?_
    refine zw_goto 28 dX10_regionAt_13 (by decide) ?_
    exact J _ (by simp only [if_neg h_9])
def sp_region (A : zA) (of t i what : Int) : Int × zA := aAns (if aTold A of then if 0 ≤ what ∧ what ≤ 4 then if 0 ≤ t ∧ t ≤ 255 then if 0 ≤ i ∧ i ≤ (rFind (A.1 of.toNat) t).2 - 1 then 0 else 1 else 2 else 1 else 1) (-1) A (rTell (A.1 of.toNat) (rFind (A.1 of.toNat) t).1 i what, A)
theorem X_region {G : zG} {B : Nat} {σ τ : zSt} {A : zA} {of t i what : Int} (h : zxR B σ τ A) (hof : -2147483648 ≤ of ∧ of ≤ 2147483647) (ht : -2147483648 ≤ t ∧ t ≤ 2147483647) (hi : -2147483648 ≤ i ∧ i ≤ 2147483647) (hwhat : -2147483648 ≤ what ∧ what ≤ 2147483647) : zC G M_X10_region [.ref B, vi of, vi t, vi i, vi what] (zxS B, σ, τ) (xQ B (sp_region A of t i what)) := by
  refine zC_of 0 rfl (Nat.le_of_ble_eq_true rfl) ?_
  have J : ∀ v : Int, v = (if aTold A of then if 0 ≤ what ∧ what ≤ 4 then if 0 ≤ t ∧ t ≤ 255 then 0 else 2 else 1 else 1) → zW G M_X10_region (xQ B (sp_region A of t i what)) 35 [some (.ref B), some (vi of), some (vi t), some (vi i), some (vi what)] [vi v, .ref B] (zxS B, σ, τ) := by
    intro v hv
    by_cases hc : aTold A of ∧ (0 ≤ what ∧ what ≤ 4) ∧ 0 ≤ t ∧ t ≤ 255
    · obtain ⟨hc1, hc2, hc3⟩ := hc
      rw [if_pos hc1, if_pos hc2, if_pos hc3] at hv
      subst hv
      have hP1 := (xScr.z (v := 0)).P h.p of.toNat (by omega)
      have hq6 := (zx_p6 (B := B) (i := of.toNat) (by omega))
      have hwh := hP1.wh hc1.2
      have hJ := rFind_J (t := t) hwh.2
      have hnn := zz_nn hwh.2.1 hwh.2.2
      have L80 : ∀ σ2, xRM B (zu σ B 17 0) (A.1 of.toNat) (rFind (A.1 of.toNat) t) σ2 → ∀ u : Int, u = (if 0 ≤ i ∧ i ≤ (rFind (A.1 of.toNat) t).2 - 1 then 0 else 1) → zW G M_X10_region (xQ B (sp_region A of t i what)) 80 [some (.ref B), some (vi of), some (vi t), some (vi i), some (vi what)] [vi u, .ref B] (zxS B, σ2, τ) := by
        intro σ2 hm u hu
        have hJb := hJ.1
        have hs3 : xScr B σ (zu σ2 B 17 u) := hm.scr.tr xScr.z
        have hm3 : xRM B (zu σ B 17 u) (A.1 of.toNat) (rFind (A.1 of.toNat) t) (zu σ2 B 17 u) := ⟨fun b hb => by
          by_cases e : b = B
          · subst e; funext k; by_cases e2 : k = 17
            · subst e2; rw [zu_eq, zu_eq]
            · rw [zu_k _ _ e2, zu_k _ _ e2, hm.1 b hb, zu_k _ _ e2]
          · rw [zu_row _ _ e, zu_row _ _ e, hm.1 b hb, zu_row _ _ e], fun c d hcd => by rw [zu_row _ _ (by omega)]; exact hm.2.1 c d hcd, by rw [zu_row _ _ (by omega)]; exact hm.2.2⟩
        have hP3 := (xScr.z (v := u)).P h.p of.toNat (by omega)
        refine zw_cVi1 83 rfl dX10_region_80 kX10_region_105 (Nat.le_of_ble_eq_true rfl) (by first | assumption | exact zx_o0 | exact zx_o _ _ _ rfl) (c_refused (by rw [hu]; split <;> omega)) ?_
        refine zw_if_eqB 88 86 rfl dX10_region_83 (by decide) (fun h_83 => ?_) (fun h_83 => ?_)
        · have hc4 : 0 ≤ i ∧ i ≤ (rFind (A.1 of.toNat) t).2 - 1 := Decidable.byContradiction fun q => by rw [if_neg q] at hu; omega
          have hu0 : u = 0 := by rw [hu, if_pos hc4]
          refine zw_aload_n 89 rfl dX10_region_88 rfl ?_
          refine zw_getr 92 rfl dX10_region_89 fl_X10_78 (by first | assumption | exact zx_o0 | exact zx_o _ _ _ rfl) (by first | assumption | exact zx_f0 _ _ rfl | exact zx_f _ _ _ rfl) ?_
          refine zw_aload_n 93 rfl dX10_region_92 rfl ?_
          refine zw_getr 96 rfl dX10_region_93 fl_X10_11 (by first | assumption | exact zx_o0 | exact zx_o _ _ _ rfl) (by first | assumption | exact zx_f0 _ _ rfl | exact zx_f _ _ _ rfl) ?_
          refine zw_iload_n 97 rfl dX10_region_96 rfl ?_
          refine zw_aald 98 rfl dX10_region_97 (by first | assumption | exact zx_o0 | exact zx_o _ _ _ rfl) (by omega) (by omega) (by first | assumption | exact zx_p6r (by omega)) ?_
          refine zw_iload_n 99 rfl dX10_region_98 rfl ?_
          refine zw_iload 101 rfl dX10_region_99 rfl ?_
          refine zw_cVi3 104 rfl dX10_region_101 kX10_region_349 (Nat.le_of_ble_eq_true rfl) (by first | assumption | exact zx_o0 | exact zx_o _ _ _ rfl) (c_tell hq6 hP3 hc1.2 (by simp only [zpa]; omega) hm3 hJ.2.2 (by omega) hc2) ?_
          exact zw_iret (st := []) dX10_region_104 rfl (xRead h (by rw [if_pos hc1, if_pos hc2, if_pos hc3, if_pos hc4]) hs3 rfl (by rw [zu_eq]; exact hu0) rfl rfl)
        · refine zw_iconst 87 rfl dX10_region_86 ?_
          refine zw_iret (st := []) dX10_region_87 rfl ?_
          have hu1 : u = 1 := by revert hu; split <;> omega
          subst hu1
          unfold sp_region
          rw [if_pos hc1, if_pos hc2, if_pos hc3, ← hu, aAns, if_neg (by omega)]
          exact ⟨rfl, _, _, rfl, h.set hs3 rfl (zu_eq _ _ _ _) (by omega) (by omega)⟩
      refine zw_cVi1 38 rfl dX10_region_35 kX10_region_105 (Nat.le_of_ble_eq_true rfl) (by first | assumption | exact zx_o0 | exact zx_o _ _ _ rfl) (c_refused (by omega)) ?_
      refine zw_if_eqB 43 41 rfl dX10_region_38 (by decide) (fun h_38 => ?_) (fun h_38 => ?_)
      · refine zw_aload_n 44 rfl dX10_region_43 rfl ?_
        refine zw_getr 47 rfl dX10_region_44 fl_X10_78 (by first | assumption | exact zx_o0 | exact zx_o _ _ _ rfl) (by first | assumption | exact zx_f0 _ _ rfl | exact zx_f _ _ _ rfl) ?_
        refine zw_aload_n 48 rfl dX10_region_47 rfl ?_
        refine zw_getr 51 rfl dX10_region_48 fl_X10_11 (by first | assumption | exact zx_o0 | exact zx_o _ _ _ rfl) (by first | assumption | exact zx_f0 _ _ rfl | exact zx_f _ _ _ rfl) ?_
        refine zw_iload_n 52 rfl dX10_region_51 rfl ?_
        refine zw_aald 53 rfl dX10_region_52 (by first | assumption | exact zx_o0 | exact zx_o _ _ _ rfl) (by omega) (by omega) (by first | assumption | exact zx_p6r (by omega)) ?_
        refine zw_iload_n 54 rfl dX10_region_53 rfl ?_
        refine zw_cVr2 57 rfl dX10_region_54 kX10_region_345 (Nat.le_of_ble_eq_true rfl) (by first | assumption | exact zx_o0 | exact zx_o _ _ _ rfl) (c_findIn hq6 hP1 hc1.2 (by simp only [zpa]; omega) hc3) ?_
        rintro _ _ ⟨rfl, σ2, rfl, hm⟩
        have hJb := hJ.1
        refine zw_aload_n 58 rfl dX10_region_57 rfl ?_
        refine zw_iload_n 59 rfl dX10_region_58 rfl ?_
        refine zw_iconst 60 rfl dX10_region_59 ?_
        refine zw_aload_n 61 rfl dX10_region_60 rfl ?_
        refine zw_getr 64 rfl dX10_region_61 fl_X10_78 (by first | assumption | exact zx_o0 | exact zx_o _ _ _ rfl) (by first | assumption | exact zx_f0 _ _ rfl | exact zx_f _ _ _ rfl) ?_
        refine zw_geti 67 rfl dX10_region_64 fl_X10_348 (by first | assumption | exact zx_o0 | exact zx_o _ _ _ rfl) ?_
        refine zw_iconst 68 rfl dX10_region_67 ?_
        refine zw_isub 69 rfl dX10_region_68 ?_
        refine zw_cSi3 72 rfl dX10_region_69 kX10_region_101 (Nat.le_of_ble_eq_true rfl) (c_within (by omega) (by omega) (by rw [hm.2.2]; omega)) ?_
        rw [hm.2.2]
        refine zw_if_eqB 79 75 rfl dX10_region_72 (by decide) (fun h_72 => ?_) (fun h_72 => ?_)
        · refine zw_iconst 80 rfl dX10_region_79 ?_
          first | exact L80 σ2 hm _ (by rw [if_neg h_72]) | exact L80 σ2 hm _ (by rw [if_pos h_72])
        · refine zw_iconst 76 rfl dX10_region_75 ?_
          refine zw_goto 80 dX10_region_76 (by decide) ?_
          first | exact L80 σ2 hm _ (by rw [if_neg h_72]) | exact L80 σ2 hm _ (by rw [if_pos h_72])
      · exact absurd rfl h_38
    · have hne : v ≠ 0 := by
        rw [hv]; intro q; apply hc
        revert q; (repeat' split) <;> intro q <;> first | omega | (exact ⟨by assumption, by assumption, by assumption⟩)
      refine zw_cVi1 38 rfl dX10_region_35 kX10_region_105 (Nat.le_of_ble_eq_true rfl) (by first | assumption | exact zx_o0 | exact zx_o _ _ _ rfl) (c_refused (by rw [hv]; (repeat' split) <;> omega)) ?_
      refine zw_if_eqB 43 41 rfl dX10_region_38 (by decide) (fun h_38 => ?_) (fun h_38 => ?_)
      · exact absurd hne h_38
      · refine zw_iconst 42 rfl dX10_region_41 ?_
        refine zw_iret (st := []) dX10_region_42 rfl ?_
        have e : (if aTold A of then if 0 ≤ what ∧ what ≤ 4 then if 0 ≤ t ∧ t ≤ 255 then if 0 ≤ i ∧ i ≤ (rFind (A.1 of.toNat) t).2 - 1 then 0 else 1 else 2 else 1 else 1) = v := by
          rw [hv]
          rw [hv] at hne
          (repeat' split) <;> first | rfl | (exfalso; simp_all)
        unfold sp_region
        rw [e]
        exact xRef h hne (by rw [hv]; (repeat' split) <;> omega)
  refine zw_aload_n 1 rfl dX10_region_0 rfl ?_
  refine zw_aload_n 2 rfl dX10_region_1 rfl ?_
  refine zw_iload_n 3 rfl dX10_region_2 rfl ?_
  refine zw_cVi1 6 rfl dX10_region_3 kX10_region_145 (Nat.le_of_ble_eq_true rfl) (by first | assumption | exact zx_o0 | exact zx_o _ _ _ rfl) (c_told h.p hof) ?_
  refine zw_if_eqB 19 9 rfl dX10_region_6 (by decide) (fun h_6 => ?_) (fun h_6 => ?_)
  · refine zw_iconst 20 rfl dX10_region_19 ?_
    refine zw_goto 35 dX10_region_20 (by decide) ?_
    exact J _ (by simp only [if_neg h_6])
  · refine zw_iload 11 rfl dX10_region_9 rfl ?_
    refine zw_iconst 12 rfl dX10_region_11 ?_
    refine zw_iconst 13 rfl dX10_region_12 ?_
    refine zw_cSi3 16 rfl dX10_region_13 kX10_region_101 (Nat.le_of_ble_eq_true rfl) (c_within (by omega) (by omega) (by omega)) ?_
    refine zw_if_neB 23 19 rfl dX10_region_16 (by decide) (fun h_16 => ?_) (fun h_16 => ?_)
    · refine zw_iload_n 24 rfl dX10_region_23 rfl ?_
      refine zw_cSi1 27 rfl dX10_region_24 kX10_region_178 (Nat.le_of_ble_eq_true rfl) (c_isShade ht) ?_
      refine zw_if_neB 34 30 rfl dX10_region_27 (by decide) (fun h_27 => ?_) (fun h_27 => ?_)
      · refine zw_iconst 35 rfl dX10_region_34 ?_
        exact J _ (by simp only [if_pos h_6, if_pos h_16, if_pos h_27])
      · refine zw_iconst 31 rfl dX10_region_30 ?_
        refine zw_goto 35 dX10_region_31 (by decide) ?_
        exact J _ (by simp only [if_pos h_6, if_pos h_16, if_neg h_27])
    · refine zw_iconst 20 rfl dX10_region_19 ?_
      refine zw_goto 35 dX10_region_20 (by decide) ?_
      exact J _ (by simp only [if_pos h_6, if_neg h_16])
