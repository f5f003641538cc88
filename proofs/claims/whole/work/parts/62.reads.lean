/-! ===== long answers ===== -/
theorem xRefl {B : Nat} {σ τ : zSt} {A : zA} {why n : Int} {g : Int × zA} (h : zxR B σ τ A) (h0 : why ≠ 0) (h5 : why ≠ 4 ∧ 0 ≤ why ∧ why ≤ 5) : xQl B (aAns why n A g) (some (vl n)) (zxS B, zu σ B 17 why, τ) := by
  rw [aAns, if_neg h0]
  exact ⟨rfl, _, _, rfl, h.set ⟨fun k hk => zu_k _ _ hk, fun b h1 _ _ => zu_row _ _ (by omega)⟩ rfl (zu_eq _ _ _ _) h5.1 (by omega)⟩
theorem xReadl {B : Nat} {σ σ' τ τ' : zSt} {A : zA} {why n e : Int} {g : Int × zA} (h : zxR B σ τ A) (h0 : why = 0) (hs : xScr B σ σ') (ht : τ' (B + 56) = τ (B + 56)) (h17 : σ' B 17 = 0) (he : e = g.1) (hg : g.2 = A) : xQl B (aAns why n A g) (some (vl e)) (zxS B, σ', τ') := by
  rw [aAns, if_pos h0, he, hg]
  exact ⟨rfl, _, _, rfl, h.set hs ht h17 (by omega) (by omega)⟩
/-! ===== is there a grid ===== -/
abbrev aMade (A : zA) : Prop := (aG A).isSome = true
abbrev aGG (A : zA) : zGr := (aG A).getD ((0, 0, fun _ _ => 0), (0, 0, fun _ _ => 0), 0, 0, 0, 0, 0)
theorem zxR.g {B : Nat} {σ τ : zSt} {A : zA} (h : zxR B σ τ A) : xrG B σ τ (aG A) := h.2.2.2.2.2.1
theorem zxR.made {B : Nat} {σ τ : zSt} {A : zA} (h : zxR B σ τ A) (hm : aMade A) : xrL σ (B + 47) (aGG A) ∧ xrC τ (B + 56) (aGG A) := by
  have hg := h.g
  unfold aMade at hm
  unfold aGG
  revert hm hg
  cases aG A with
  | none => intro hm _; simp at hm
  | some g => intro _ hg; exact hg
theorem xrL.scr {B : Nat} {σ σ' : zSt} {g : zGr} (h : xrL σ (B + 47) g) (hs : xScr B σ σ') : xrL σ' (B + 47) g := h.c (by rw [hs.2 (B + 47) (by omega) (by omega) (by omega)]) (by rw [hs.2 (B + 47) (by omega) (by omega) (by omega)]) (fun b h1 h2 => hs.2 b (by omega) (by omega) (by omega))
theorem c_made {G : zG} {B : Nat} {σ τ : zSt} {A : zA} (h : zxR B σ τ A) : zC G M_X1_isMade [.ref (B + 47)] (zxS B, σ, τ) (zR (some (vi (zb (aMade A)))) (zxS B, σ, τ)) := by
  have hg := h.g
  have key : (-2147483648 ≤ σ (B + 47) 5 ∧ σ (B + 47) 5 ≤ 2147483647) ∧ zb (0 < σ (B + 47) 5) = zb (aMade A) := by
    unfold aMade
    revert hg
    cases aG A with
    | none =>
      intro hg
      have e : σ (B + 47) 5 = 0 := hg
      rw [e]
      exact ⟨by omega, (zb_f (P := (0 : Int) < 0) (by omega)).symm.trans (zb_f (by simp))⟩
    | some g =>
      intro hg
      have hk := hg.1.1.2.2.2.2.1
      have e := hg.1.2.2.2.1
      rw [e]
      exact ⟨by omega, (zb_t (P := 0 < g.2.2.1) (by omega)).symm.trans (zb_t (by simp))⟩
  rw [← key.2]
  exact c_isMade zx_lat key.1
theorem c_dotL {G : zG} {B : Nat} {σ τ : zSt} {A : zA} {x y : Int} (h : zxR B σ τ A) (hx : -2147483648 ≤ x ∧ x ≤ 2147483647) (hy : -2147483648 ≤ y ∧ y ≤ 2147483647) : zC G M_X1_hasDot [.ref (B + 47), vi x, vi y] (zxS B, σ, τ) (zR (some (vi (zb (aMade A ∧ aIn (aGG A).1 x y)))) (zxS B, σ, τ)) := by
  by_cases hm : aMade A
  · have e : zb (aMade A ∧ aIn (aGG A).1 x y) = zb (aIn (aGG A).1 x y) := by
      by_cases q : aIn (aGG A).1 x y
      · exact (zb_t ⟨hm, q⟩).symm.trans (zb_t q)
      · exact (zb_f (P := aMade A ∧ aIn (aGG A).1 x y) (fun r => q r.2)).symm.trans (zb_f q)
    rw [e]
    exact c_hasDotL zx_lat (h.made hm).1 hx hy
  · refine zC_of 0 rfl (Nat.le_of_ble_eq_true rfl) ?_
    refine zw_aload_n 1 rfl dX1_hasDot_0 rfl ?_
    refine zw_cVi0 4 rfl dX1_hasDot_1 kX1_hasDot_55 (Nat.le_of_ble_eq_true rfl) (by first | assumption | exact zx_o0 | exact zx_o _ _ _ rfl) (c_made h) ?_
    refine zw_if_eqB 23 7 rfl dX1_hasDot_4 (by decide) (fun h_4 => ?_) (fun h_4 => ?_)
    · refine zw_iconst 24 rfl dX1_hasDot_23 ?_
      exact zw_zretR dX1_hasDot_24 rfl (by omega) (zb_f (fun q => hm q.1)) rfl
    · exact absurd h_4 hm
def sp_node (A : zA) (i j k what : Int) : Int × zA := aAns (if aMade A then if 0 ≤ what ∧ what ≤ 1 then 0 else 1 else 1) (-1) A (zNH (aGG A) i j k what, A)
theorem X_node {G : zG} {B : Nat} {σ τ : zSt} {A : zA} {i j k what : Int} (h : zxR B σ τ A) (hi : -2147483648 ≤ i ∧ i ≤ 2147483647) (hj : -2147483648 ≤ j ∧ j ≤ 2147483647) (hk : -2147483648 ≤ k ∧ k ≤ 2147483647) (hwhat : -2147483648 ≤ what ∧ what ≤ 2147483647) : zC G M_X10_node [.ref B, vi i, vi j, vi k, vi what] (zxS B, σ, τ) (xQl B (sp_node A i j k what)) := by
  refine zC_of 0 rfl (Nat.le_of_ble_eq_true rfl) ?_
  have J : ∀ v : Int, v = (if aMade A then if 0 ≤ what ∧ what ≤ 1 then 0 else 1 else 1) → zW G M_X10_node (xQl B (sp_node A i j k what)) 26 [some (.ref B), some (vi i), some (vi j), some (vi k), some (vi what)] [vi v, .ref B] (zxS B, σ, τ) := by
    intro v hv

    refine zw_cVi1 29 rfl dX10_node_26 kX10_node_105 (Nat.le_of_ble_eq_true rfl) (by first | assumption | exact zx_o0 | exact zx_o _ _ _ rfl) (c_refused (by rw [hv]; (repeat' split) <;> omega)) ?_
    refine zw_if_eqB 36 32 rfl dX10_node_29 (by decide) (fun h_29 => ?_) (fun h_29 => ?_)
    · have hc1 : aMade A := Decidable.byContradiction fun q => by rw [if_neg q] at hv; (try split at hv) <;> omega
      rw [if_pos hc1] at hv
      have hc2 : 0 ≤ what ∧ what ≤ 1 := Decidable.byContradiction fun q => by rw [if_neg q] at hv; (try split at hv) <;> omega
      rw [if_pos hc2] at hv
      subst hv
      refine zw_aload_n 37 rfl dX10_node_36 rfl ?_
      refine zw_getr 40 rfl dX10_node_37 fl_X10_54 (by first | assumption | exact zx_o0 | exact zx_o _ _ _ rfl) (by first | assumption | exact zx_f0 _ _ rfl | exact zx_f _ _ _ rfl) ?_
      refine zw_iload_n 41 rfl dX10_node_40 rfl ?_
      refine zw_iload_n 42 rfl dX10_node_41 rfl ?_
      refine zw_iload_n 43 rfl dX10_node_42 rfl ?_
      refine zw_iload 45 rfl dX10_node_43 rfl ?_
      refine zw_iconst 46 rfl dX10_node_45 ?_
      refine zw_icmp_ne 53 49 rfl dX10_node_46 (by decide) (by omega) (by omega) (fun h_46 => ?_) (fun h_46 => ?_)
      · refine zw_iconst 54 rfl dX10_node_53 ?_
        refine zw_cVi4 57 rfl dX10_node_54 kX10_node_257 (Nat.le_of_ble_eq_true rfl) (by first | assumption | exact zx_o0 | exact zx_o _ _ _ rfl) (c_nodeHolds zx_lat ((h.made hc1).1.scr xScr.z) hi hj hk (by omega)) ?_
        exact zw_lret (st := []) dX10_node_57 rfl (xReadl h (by simp only [if_pos hc1, if_pos hc2]) xScr.z rfl (zu_eq _ _ _ _) (by first | rw [h_46] | rw [show what = 0 by omega]) rfl)
      · refine zw_iconst 50 rfl dX10_node_49 ?_
        refine zw_goto 54 dX10_node_50 (by decide) ?_
        refine zw_cVi4 57 rfl dX10_node_54 kX10_node_257 (Nat.le_of_ble_eq_true rfl) (by first | assumption | exact zx_o0 | exact zx_o _ _ _ rfl) (c_nodeHolds zx_lat ((h.made hc1).1.scr xScr.z) hi hj hk (by omega)) ?_
        exact zw_lret (st := []) dX10_node_57 rfl (xReadl h (by simp only [if_pos hc1, if_pos hc2]) xScr.z rfl (zu_eq _ _ _ _) (by first | rw [h_46] | rw [show what = 0 by omega]) rfl)
    · refine zw_ldc2_w 35 rfl dX10_node_32 kX10_255 ?_
      subst hv
      exact zw_lret (st := []) dX10_node_35 rfl (xRefl h h_29 (by (repeat' split) <;> omega))
  refine zw_aload_n 1 rfl dX10_node_0 rfl ?_
  refine zw_aload_n 2 rfl dX10_node_1 rfl ?_
  refine zw_getr 5 rfl dX10_node_2 fl_X10_54 (by first | assumption | exact zx_o0 | exact zx_o _ _ _ rfl) (by first | assumption | exact zx_f0 _ _ rfl | exact zx_f _ _ _ rfl) ?_
  refine zw_cVi0 8 rfl dX10_node_5 kX10_node_242 (Nat.le_of_ble_eq_true rfl) (by first | assumption | exact zx_o0 | exact zx_o _ _ _ rfl) (c_made h) ?_
  refine zw_if_eqB 25 11 rfl dX10_node_8 (by decide) (fun h_8 => ?_) (fun h_8 => ?_)
  · refine zw_iconst 26 rfl dX10_node_25 ?_
    exact J _ (by simp only [if_neg h_8])
  · refine zw_iload 13 rfl dX10_node_11 rfl ?_
    refine zw_iconst 14 rfl dX10_node_13 ?_
    refine zw_iconst 15 rfl dX10_node_14 ?_
    refine zw_cSi3 18 rfl dX10_node_15 kX10_node_101 (Nat.le_of_ble_eq_true rfl) (c_within (by omega) (by omega) (by omega)) ?_
    refine zw_if_eqB 25 21 rfl dX10_node_18 (by decide) (fun h_18 => ?_) (fun h_18 => ?_)
    · refine zw_iconst 26 rfl dX10_node_25 ?_
      exact J _ (by simp only [if_pos h_8, if_neg h_18])
    · refine zw_iconst 22 rfl dX10_node_21 ?_
      refine zw_goto 26 dX10_node_22 (by decide) ?_
      exact J _ (by simp only [if_pos h_8, if_pos h_18])
def sp_total (A : zA) (what : Int) : Int × zA := aAns (if aMade A then if 0 ≤ what ∧ what ≤ 1 then 0 else 1 else 1) (-1) A (zTot (aGG A) what, A)
theorem X_total {G : zG} {B : Nat} {σ τ : zSt} {A : zA} {what : Int} (h : zxR B σ τ A) (hwhat : -2147483648 ≤ what ∧ what ≤ 2147483647) : zC G M_X10_total [.ref B, vi what] (zxS B, σ, τ) (xQl B (sp_total A what)) := by
  refine zC_of 0 rfl (Nat.le_of_ble_eq_true rfl) ?_
  have J : ∀ v : Int, v = (if aMade A then if 0 ≤ what ∧ what ≤ 1 then 0 else 1 else 1) → zW G M_X10_total (xQl B (sp_total A what)) 25 [some (.ref B), some (vi what)] [vi v, .ref B] (zxS B, σ, τ) := by
    intro v hv

    refine zw_cVi1 28 rfl dX10_total_25 kX10_total_105 (Nat.le_of_ble_eq_true rfl) (by first | assumption | exact zx_o0 | exact zx_o _ _ _ rfl) (c_refused (by rw [hv]; (repeat' split) <;> omega)) ?_
    refine zw_if_eqB 35 31 rfl dX10_total_28 (by decide) (fun h_28 => ?_) (fun h_28 => ?_)
    · have hc1 : aMade A := Decidable.byContradiction fun q => by rw [if_neg q] at hv; (try split at hv) <;> omega
      rw [if_pos hc1] at hv
      have hc2 : 0 ≤ what ∧ what ≤ 1 := Decidable.byContradiction fun q => by rw [if_neg q] at hv; (try split at hv) <;> omega
      rw [if_pos hc2] at hv
      subst hv
      refine zw_aload_n 36 rfl dX10_total_35 rfl ?_
      refine zw_getr 39 rfl dX10_total_36 fl_X10_54 (by first | assumption | exact zx_o0 | exact zx_o _ _ _ rfl) (by first | assumption | exact zx_f0 _ _ rfl | exact zx_f _ _ _ rfl) ?_
      refine zw_iload_n 40 rfl dX10_total_39 rfl ?_
      refine zw_iconst 41 rfl dX10_total_40 ?_
      refine zw_icmp_ne 48 44 rfl dX10_total_41 (by decide) (by omega) (by omega) (fun h_41 => ?_) (fun h_41 => ?_)
      · refine zw_iconst 49 rfl dX10_total_48 ?_
        refine zw_cVi1 52 rfl dX10_total_49 kX10_total_264 (Nat.le_of_ble_eq_true rfl) (by first | assumption | exact zx_o0 | exact zx_o _ _ _ rfl) (c_allHold zx_lat ((h.made hc1).1.scr xScr.z) (by omega)) ?_
        exact zw_lret (st := []) dX10_total_52 rfl (xReadl h (by simp only [if_pos hc1, if_pos hc2]) xScr.z rfl (zu_eq _ _ _ _) (by first | rw [h_41] | rw [show what = 0 by omega]) rfl)
      · refine zw_iconst 45 rfl dX10_total_44 ?_
        refine zw_goto 49 dX10_total_45 (by decide) ?_
        refine zw_cVi1 52 rfl dX10_total_49 kX10_total_264 (Nat.le_of_ble_eq_true rfl) (by first | assumption | exact zx_o0 | exact zx_o _ _ _ rfl) (c_allHold zx_lat ((h.made hc1).1.scr xScr.z) (by omega)) ?_
        exact zw_lret (st := []) dX10_total_52 rfl (xReadl h (by simp only [if_pos hc1, if_pos hc2]) xScr.z rfl (zu_eq _ _ _ _) (by first | rw [h_41] | rw [show what = 0 by omega]) rfl)
    · refine zw_ldc2_w 34 rfl dX10_total_31 kX10_255 ?_
      subst hv
      exact zw_lret (st := []) dX10_total_34 rfl (xRefl h h_28 (by (repeat' split) <;> omega))
  refine zw_aload_n 1 rfl dX10_total_0 rfl ?_
  refine zw_aload_n 2 rfl dX10_total_1 rfl ?_
  refine zw_getr 5 rfl dX10_total_2 fl_X10_54 (by first | assumption | exact zx_o0 | exact zx_o _ _ _ rfl) (by first | assumption | exact zx_f0 _ _ rfl | exact zx_f _ _ _ rfl) ?_
  refine zw_cVi0 8 rfl dX10_total_5 kX10_total_242 (Nat.le_of_ble_eq_true rfl) (by first | assumption | exact zx_o0 | exact zx_o _ _ _ rfl) (c_made h) ?_
  refine zw_if_eqB 24 11 rfl dX10_total_8 (by decide) (fun h_8 => ?_) (fun h_8 => ?_)
  · refine zw_iconst 25 rfl dX10_total_24 ?_
    exact J _ (by simp only [if_neg h_8])
  · refine zw_iload_n 12 rfl dX10_total_11 rfl ?_
    refine zw_iconst 13 rfl dX10_total_12 ?_
    refine zw_iconst 14 rfl dX10_total_13 ?_
    refine zw_cSi3 17 rfl dX10_total_14 kX10_total_101 (Nat.le_of_ble_eq_true rfl) (c_within (by omega) (by omega) (by omega)) ?_
    refine zw_if_eqB 24 20 rfl dX10_total_17 (by decide) (fun h_17 => ?_) (fun h_17 => ?_)
    · refine zw_iconst 25 rfl dX10_total_24 ?_
      exact J _ (by simp only [if_pos h_8, if_neg h_17])
    · refine zw_iconst 21 rfl dX10_total_20 ?_
      refine zw_goto 25 dX10_total_21 (by decide) ?_
      exact J _ (by simp only [if_pos h_8, if_pos h_17])
def sp_readShade (A : zA) (x y : Int) : Int × zA := aAns (if aMade A ∧ aIn (aGG A).1 x y then 0 else 1) (-1) A (zShR (aGG A) x y, A)
theorem X_readShade {G : zG} {B : Nat} {σ τ : zSt} {A : zA} {x y : Int} (h : zxR B σ τ A) (hx : -2147483648 ≤ x ∧ x ≤ 2147483647) (hy : -2147483648 ≤ y ∧ y ≤ 2147483647) : zC G M_X10_readShade [.ref B, vi x, vi y] (zxS B, σ, τ) (xQ B (sp_readShade A x y)) := by
  refine zC_of 0 rfl (Nat.le_of_ble_eq_true rfl) ?_
  have J : ∀ v : Int, v = (if aMade A ∧ aIn (aGG A).1 x y then 0 else 1) → zW G M_X10_readShade (xQ B (sp_readShade A x y)) 18 [some (.ref B), some (vi x), some (vi y)] [vi v, .ref B] (zxS B, σ, τ) := by
    intro v hv

    refine zw_cVi1 21 rfl dX10_readShade_18 kX10_readShade_105 (Nat.le_of_ble_eq_true rfl) (by first | assumption | exact zx_o0 | exact zx_o _ _ _ rfl) (c_refused (by rw [hv]; (repeat' split) <;> omega)) ?_
    refine zw_if_eqB 26 24 rfl dX10_readShade_21 (by decide) (fun h_21 => ?_) (fun h_21 => ?_)
    · have hc1 : aMade A ∧ aIn (aGG A).1 x y := Decidable.byContradiction fun q => by rw [if_neg q] at hv; (try split at hv) <;> omega
      rw [if_pos hc1] at hv
      subst hv
      refine zw_aload_n 27 rfl dX10_readShade_26 rfl ?_
      refine zw_getr 30 rfl dX10_readShade_27 fl_X10_54 (by first | assumption | exact zx_o0 | exact zx_o _ _ _ rfl) (by first | assumption | exact zx_f0 _ _ rfl | exact zx_f _ _ _ rfl) ?_
      refine zw_iload_n 31 rfl dX10_readShade_30 rfl ?_
      refine zw_iload_n 32 rfl dX10_readShade_31 rfl ?_
      refine zw_cVr2 35 rfl dX10_readShade_32 kX10_readShade_290 (Nat.le_of_ble_eq_true rfl) (by first | assumption | exact zx_o0 | exact zx_o _ _ _ rfl) (c_shadeRead zx_lat ((h.made hc1.1).1.scr xScr.z) hc1.2) ?_
      rintro _ _ ⟨rfl, τ2, rfl, f1⟩
      exact zw_iret (st := []) dX10_readShade_35 rfl (xRead h (by simp only [if_pos hc1]) xScr.z (f1 _ (by omega)) (zu_eq _ _ _ _) rfl rfl)
    · refine zw_iconst 25 rfl dX10_readShade_24 ?_
      subst hv
      exact zw_iret (st := []) dX10_readShade_25 rfl (xRef h h_21 (by (repeat' split) <;> omega))
  refine zw_aload_n 1 rfl dX10_readShade_0 rfl ?_
  refine zw_aload_n 2 rfl dX10_readShade_1 rfl ?_
  refine zw_getr 5 rfl dX10_readShade_2 fl_X10_54 (by first | assumption | exact zx_o0 | exact zx_o _ _ _ rfl) (by first | assumption | exact zx_f0 _ _ rfl | exact zx_f _ _ _ rfl) ?_
  refine zw_iload_n 6 rfl dX10_readShade_5 rfl ?_
  refine zw_iload_n 7 rfl dX10_readShade_6 rfl ?_
  refine zw_cVi2 10 rfl dX10_readShade_7 kX10_readShade_274 (Nat.le_of_ble_eq_true rfl) (by first | assumption | exact zx_o0 | exact zx_o _ _ _ rfl) (c_dotL h hx hy) ?_
  refine zw_if_eqB 17 13 rfl dX10_readShade_10 (by decide) (fun h_10 => ?_) (fun h_10 => ?_)
  · refine zw_iconst 18 rfl dX10_readShade_17 ?_
    exact J _ (by simp only [if_neg h_10])
  · refine zw_iconst 14 rfl dX10_readShade_13 ?_
    refine zw_goto 18 dX10_readShade_14 (by decide) ?_
    exact J _ (by simp only [if_pos h_10])
/-! ===== the common divisor ===== -/
def zgc : Nat → Nat → Nat → Nat
  | 0, d, _ => d
  | n + 1, d, r => if 0 < r then zgc n r (d % r) else d
theorem zgc_eq : ∀ (m n d r : Nat), r < 2 ^ m → 2 * m + 1 ≤ n → zgc n d r = Nat.gcd d r
  | 0, n + 1, d, r, h, _ => by
    have : r = 0 := by simpa using h
    subst this
    simp [zgc]
  | m + 1, n + 2, d, r, h, hn => by
    rw [zgc]
    split
    · rename_i hr
      rw [zgc]
      split
      · rename_i hr2
        have e1 : (d % r) + (r % (d % r)) ≤ r := by
          have h1 := Nat.div_add_mod r (d % r)
          have h2 : 1 ≤ r / (d % r) := Nat.div_pos (Nat.le_of_lt (Nat.mod_lt _ hr)) hr2
          have h3 : (d % r) * 1 ≤ (d % r) * (r / (d % r)) := Nat.mul_le_mul_left _ h2
          omega
        have e2 := Nat.mod_lt r hr2
        rw [zgc_eq m n (d % r) (r % (d % r)) (by rw [Nat.pow_succ] at h; omega) (by omega), Nat.gcd_comm, ← Nat.gcd_rec, ← Nat.gcd_rec, Nat.gcd_comm]
      · rename_i hr2
        have : d % r = 0 := by omega
        rw [Nat.gcd_comm, Nat.gcd_rec, this, Nat.gcd_zero_left]
    · rename_i hr
      rw [show r = 0 by omega, Nat.gcd_zero_right]
  | m + 1, 1, _, _, _, hn => by omega
  | _, 0, _, _, _, hn => by omega
theorem c_commonDivisor {G : zG} {S : zSh} {σ τ : zSt} {a b : Nat} (ha : a ≤ 2000000000000000000) (hb : b ≤ 2000000000000000000) : zC G M_X10_commonDivisor [vl a, vl b] (S, σ, τ) (zR (some (vl (Nat.gcd a b : Nat))) (S, σ, τ)) := by
  refine zC_of 7 rfl (Nat.le_of_ble_eq_true rfl) ?_
  have loop : ∀ (n k d r : Nat), n + k = 200 → d ≤ 2000000000000000000 → r ≤ 2000000000000000000 → zgc n d r = Nat.gcd a b → zW G M_X10_commonDivisor (zR (some (vl (Nat.gcd a b : Nat))) (S, σ, τ)) 9 [some (vl a), none, some (vl b), none, some (vl d), none, some (vl r), none, some (vi k), none, none] [] (S, σ, τ) := by
    intro n
    induction n with
    | zero =>
      intro k d r hk hd hr he
      refine zw_iload 11 rfl dX10_commonDivisor_9 rfl ?_
      refine zw_sipush 14 rfl dX10_commonDivisor_11 rfl ?_
      refine zw_icmp_ge 45 17 rfl dX10_commonDivisor_14 (by decide) (by omega) (by omega) (fun h_14 => ?_) (fun h_14 => ?_)
      · refine zw_lload 47 rfl dX10_commonDivisor_45 rfl ?_
        exact zw_lretR dX10_commonDivisor_47 rfl (by rw [← he]; rfl) rfl
      · omega
    | succ n ih =>
      intro k d r hk hd hr he
      rw [zgc] at he
      refine zw_iload 11 rfl dX10_commonDivisor_9 rfl ?_
      refine zw_sipush 14 rfl dX10_commonDivisor_11 rfl ?_
      refine zw_icmp_ge 45 17 rfl dX10_commonDivisor_14 (by decide) (by omega) (by omega) (fun h_14 => ?_) (fun h_14 => ?_)
      · refine zw_lload 47 rfl dX10_commonDivisor_45 rfl ?_
        first | omega | exact zw_lretR dX10_commonDivisor_47 rfl (by rw [if_neg (by revert h_21; (repeat' split) <;> omega)] at he; rw [he]) rfl
      · refine zw_lload 19 rfl dX10_commonDivisor_17 rfl ?_
        refine zw_lconst 20 rfl dX10_commonDivisor_19 ?_
        refine zw_lcmp 21 rfl dX10_commonDivisor_20 (by omega) (by omega) ?_
        refine zw_if_le 45 24 rfl dX10_commonDivisor_21 (by decide) (by (repeat' split) <;> omega) (fun h_21 => ?_) (fun h_21 => ?_)
        · refine zw_lload 47 rfl dX10_commonDivisor_45 rfl ?_
          first | omega | exact zw_lretR dX10_commonDivisor_47 rfl (by rw [if_neg (by revert h_21; (repeat' split) <;> omega)] at he; rw [he]) rfl
        · have hrp : 0 < r := by revert h_21; (repeat' split) <;> omega
          refine zw_lload 26 rfl dX10_commonDivisor_24 rfl ?_
          refine zw_lload 28 rfl dX10_commonDivisor_26 rfl ?_
          refine zw_lrem 29 rfl dX10_commonDivisor_28 (by omega) (by revert h_21; (repeat' split) <;> omega) ?_
          refine zw_lstore 31 rfl dX10_commonDivisor_29 (Nat.le_of_ble_eq_true rfl) rfl ?_
          refine zw_lload 33 rfl dX10_commonDivisor_31 rfl ?_
          refine zw_lstore 35 rfl dX10_commonDivisor_33 (Nat.le_of_ble_eq_true rfl) rfl ?_
          refine zw_lload 37 rfl dX10_commonDivisor_35 rfl ?_
          refine zw_lstore 39 rfl dX10_commonDivisor_37 (Nat.le_of_ble_eq_true rfl) rfl ?_
          refine zw_iinc 42 rfl dX10_commonDivisor_39 (Nat.le_of_ble_eq_true rfl) rfl rfl ?_
          refine zw_goto 9 dX10_commonDivisor_42 (by decide) ?_
          refine zw_drop 9 ?_
          rw [if_pos hrp] at he
          rw [← Int.natCast_emod]
          exact ih (k + 1) r (d % r) (by omega) hr (by have := Nat.mod_lt d hrp; omega) he
  refine zw_lload_n 1 rfl dX10_commonDivisor_0 rfl ?_
  refine zw_lstore 3 rfl dX10_commonDivisor_1 (Nat.le_of_ble_eq_true rfl) rfl ?_
  refine zw_lload_n 4 rfl dX10_commonDivisor_3 rfl ?_
  refine zw_lstore 6 rfl dX10_commonDivisor_4 (Nat.le_of_ble_eq_true rfl) rfl ?_
  refine zw_iconst 7 rfl dX10_commonDivisor_6 ?_
  refine zw_istore 9 rfl dX10_commonDivisor_7 (Nat.le_of_ble_eq_true rfl) rfl ?_
  exact loop 200 0 a b rfl ha hb (zgc_eq 62 200 a b (by omega) (by omega))
