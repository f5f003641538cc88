/-! ===== how many nodes weigh, the m-th of them ===== -/
def zDb (g : zGr) (c k : Nat) : Bool := decide (0 < zwt g (((c / 18 : Nat) : Int) - 3) (((c % 18 : Nat) : Int) - 3) ((k : Int) - 3))
def zDc (D : Nat → Nat → Bool) (c : Nat) : Int := zS (fun k => if D c k then 1 else 0) 40
def zDn (D : Nat → Nat → Bool) : Int := zS (fun c => zDc D c) 396
def zDr (D : Nat → Nat → Bool) (c : Nat) : Nat → Nat → Int → Int
  | 0, _, _ => 0
  | n + 1, k, l => if D c k then (if l = 0 then k else zDr D c n (k + 1) (l - 1)) else zDr D c n (k + 1) l
def zDm (D : Nat → Nat → Bool) (what : Int) : Nat → Nat → Int → Int
  | 0, _, _ => -1000
  | n + 1, c, m => if m < zDc D c then (if what = 0 then (c : Int) / 18 else if what = 1 then (c : Int) % 18 else zDr D c 39 0 m) - 3 else zDm D what n (c + 1) (m - zDc D c)
theorem zpc_S (x : Nat) : ∀ (n m : Nat), (zpc n (x / 2 ^ m) : Int) = zS (fun k => if x.testBit (m + k) then 1 else 0) n
  | 0, m => rfl
  | n + 1, m => by
    have e := zpc_add n 1 (x / 2 ^ m)
    have e2 : zpc 1 (x / 2 ^ m / 2 ^ n) = if x.testBit (m + n) then 1 else 0 := by
      simp only [zpc]
      rw [Nat.testBit_eq_decide_div_mod_eq, Nat.div_div_eq_div_mul, ← Nat.pow_add]
      have := Nat.mod_lt (x / 2 ^ (m + n)) (show 2 > 0 by omega)
      by_cases q : x / 2 ^ (m + n) % 2 = 1
      · rw [decide_eq_true q, if_pos rfl]; omega
      · rw [decide_eq_false q, if_neg (by simp)]; omega
    rw [zS_s, ← zpc_S x n m, e, e2]
    split <;> simp
theorem xCB.d {g : zGr} {C : Nat → Nat} (h : xCB g C) (hk : zGok g) {c : Nat} (hc : c < 396) (k : Nat) : (C c).testBit k = zDb g c k := by
  have := h c hc k
  rw [← zwt_p hk] at this
  unfold zDb
  cases e : (C c).testBit k with
  | true => exact (decide_eq_true (this.mp e)).symm
  | false => exact (decide_eq_false (fun q => by rw [this.mpr q] at e; exact absurd e (by decide))).symm
theorem xCB.c {g : zGr} {C : Nat → Nat} (h : xCB g C) (hk : zGok g) {c : Nat} (hc : c < 396) : (zpc 40 (C c) : Int) = zDc (zDb g) c := by
  have e := zpc_S (C c) 40 0
  rw [Nat.pow_zero, Nat.div_one] at e
  rw [e]
  exact zS_c _ (fun k _ => by rw [Nat.zero_add, h.d hk hc k])
theorem xCB.n {g : zGr} {C : Nat → Nat} (h : xCB g C) (hk : zGok g) : zCc C = zDn (zDb g) := zS_c _ (fun c hc => h.c hk hc)
theorem xCB.r {g : zGr} {C : Nat → Nat} (h : xCB g C) (hk : zGok g) {c : Nat} (hc : c < 396) : ∀ (n k : Nat) (l : Int), zbr (C c) n k l = zDr (zDb g) c n k l
  | 0, _, _ => rfl
  | n + 1, k, l => by simp only [zbr, zDr]; rw [h.d hk hc k, h.r hk hc n, h.r hk hc n]
theorem xCB.m {g : zGr} {C : Nat → Nat} {what : Int} (h : xCB g C) (hk : zGok g) : ∀ (n c : Nat) (m : Int), n + c = 396 → zNth C what n c m = zDm (zDb g) what n c m
  | 0, _, _, _ => rfl
  | n + 1, c, m, hn => by simp only [zNth, zDm]; rw [h.c hk (by omega), h.r hk (by omega), h.m hk n (c + 1) _ (by omega)]
/-! ===== a new grid ===== -/
def aGs (A : zA) (g : zGr) : zA := (A.1, A.2.1, A.2.2.1, A.2.2.2.1, A.2.2.2.2.1, some g, A.2.2.2.2.2.2)
theorem zxR.grid {B : Nat} {σ σ' τ τ' : zSt} {A : zA} {g : zGr} (h : zxR B σ τ A) (hf : ∀ b, B < b → b < B + 86 → (b < B + 47 ∨ B + 54 < b) → σ' b = σ b) (hB : ∀ k, k ≠ 17 → σ' B k = σ B k) (h17 : σ' B 17 = 0) (hL : xrL σ' (B + 47) g) (hC : xrC τ' (B + 56) g) : zxR B σ' τ' (aSet (aGs A g) 0) := by
  obtain ⟨a1, a2, a3, a4, a5, a6, a7⟩ := h
  refine ⟨a1.c (fun b h1 h2 => hf b (by omega) (by omega) (by omega)), a2.c (fun b h1 h2 => hf b (by omega) (by omega) (by omega)), a3.c (by rw [hf (B + 29) (by omega) (by omega) (by omega)]) (hf (B + 30) (by omega) (by omega) (by omega)), ⟨h17, rfl, ?_, (show (-2147483648 : Int) ≤ 0 ∧ (0 : Int) ≤ 2147483647 by omega)⟩, a5.c (fun b h1 h2 => hf b (by omega) (by omega) (by omega)), ⟨hL, hC⟩, ?_⟩
  · rw [hB 15 (by omega)]; exact a4.2.2.1
  · unfold xrI at *
    rw [hB 14 (by omega), hf (B + 73) (by omega) (by omega) (by omega)]
    exact a7
def sp_grid (A : zA) (of gu s r : Int) : Int × zA := aAns (if aTold A of then if aTold A gu then if (1 ≤ s ∧ s ≤ 8) ∧ 8 ≤ r ∧ r ≤ 128 then if aLike A of gu then 0 else 5 else 2 else 1 else 1) (-1) A (zDn (zDb (aSmG (A.1 of.toNat) (A.1 gu.toNat) s r 0)), aGs A (aSmG (A.1 of.toNat) (A.1 gu.toNat) s r 0))
theorem X_grid {G : zG} {B : Nat} {σ τ : zSt} {A : zA} {of gu s r : Int} (h : zxR B σ τ A) (hof : -2147483648 ≤ of ∧ of ≤ 2147483647) (hgu : -2147483648 ≤ gu ∧ gu ≤ 2147483647) (hs : -2147483648 ≤ s ∧ s ≤ 2147483647) (hr : -2147483648 ≤ r ∧ r ≤ 2147483647) : zC G M_X10_grid [.ref B, vi of, vi gu, vi s, vi r] (zxS B, σ, τ) (xQ B (sp_grid A of gu s r)) := by
  refine zC_of 0 rfl (Nat.le_of_ble_eq_true rfl) ?_
  have J : ∀ v : Int, v = (if aTold A of then if aTold A gu then if (1 ≤ s ∧ s ≤ 8) ∧ 8 ≤ r ∧ r ≤ 128 then if aLike A of gu then 0 else 5 else 2 else 1 else 1) → zW G M_X10_grid (xQ B (sp_grid A of gu s r)) 48 [some (.ref B), some (vi of), some (vi gu), some (vi s), some (vi r)] [vi v, .ref B] (zxS B, σ, τ) := by
    intro v hv

    refine zw_cVi1 51 rfl dX10_grid_48 kX10_grid_105 (Nat.le_of_ble_eq_true rfl) (by first | assumption | exact zx_o0 | exact zx_o _ _ _ rfl) (c_refused (by rw [hv]; (repeat' split) <;> omega)) ?_
    refine zw_if_eqB 56 54 rfl dX10_grid_51 (by decide) (fun h_51 => ?_) (fun h_51 => ?_)
    · have hc1 : aTold A of := Decidable.byContradiction fun q => by rw [if_neg q] at hv; (try split at hv) <;> omega
      rw [if_pos hc1] at hv
      have hc2 : aTold A gu := Decidable.byContradiction fun q => by rw [if_neg q] at hv; (try split at hv) <;> omega
      rw [if_pos hc2] at hv
      have hc3 : (1 ≤ s ∧ s ≤ 8) ∧ 8 ≤ r ∧ r ≤ 128 := Decidable.byContradiction fun q => by rw [if_neg q] at hv; (try split at hv) <;> omega
      rw [if_pos hc3] at hv
      have hc4 : aLike A of gu := Decidable.byContradiction fun q => by rw [if_neg q] at hv; (try split at hv) <;> omega
      rw [if_pos hc4] at hv
      subst hv
      have hP1 := (xScr.z (v := 0)).P h.p of.toNat (by omega)
      have hP2 := (xScr.z (v := 0)).P h.p gu.toNat (by omega)
      have hq1 := (zx_p6 (B := B) (i := of.toNat) (by omega))
      have hq2 := (zx_p6 (B := B) (i := gu.toNat) (by omega))
      have hok := aSmG_ok (n := 0) (hP1.wh hc1.2).2 hc4.1.symm hc4.2.symm hc3.1 hc3.2 (by omega) (fun x y hx hy => ((hP1.2.2 hc1.2).2.2 x y hx hy).2) (fun x y hx hy => ((hP2.2.2 hc2.2).2.2 x y hx hy).2)
      refine zw_aload_n 57 rfl dX10_grid_56 rfl ?_
      refine zw_getr 60 rfl dX10_grid_57 fl_X10_54 (by first | assumption | exact zx_o0 | exact zx_o _ _ _ rfl) (by first | assumption | exact zx_f0 _ _ rfl | exact zx_f _ _ _ rfl) ?_
      refine zw_aload_n 61 rfl dX10_grid_60 rfl ?_
      refine zw_getr 64 rfl dX10_grid_61 fl_X10_11 (by first | assumption | exact zx_o0 | exact zx_o _ _ _ rfl) (by first | assumption | exact zx_f0 _ _ rfl | exact zx_f _ _ _ rfl) ?_
      refine zw_iload_n 65 rfl dX10_grid_64 rfl ?_
      refine zw_aald 66 rfl dX10_grid_65 (by first | assumption | exact zx_o0 | exact zx_o _ _ _ rfl) (by omega) (by omega) (by first | assumption | exact zx_p6r (by omega)) ?_
      refine zw_aload_n 67 rfl dX10_grid_66 rfl ?_
      refine zw_getr 70 rfl dX10_grid_67 fl_X10_11 (by first | assumption | exact zx_o0 | exact zx_o _ _ _ rfl) (by first | assumption | exact zx_f0 _ _ rfl | exact zx_f _ _ _ rfl) ?_
      refine zw_iload_n 71 rfl dX10_grid_70 rfl ?_
      refine zw_aald 72 rfl dX10_grid_71 (by first | assumption | exact zx_o0 | exact zx_o _ _ _ rfl) (by omega) (by omega) (by first | assumption | exact zx_p6r (by omega)) ?_
      refine zw_iload_n 73 rfl dX10_grid_72 rfl ?_
      refine zw_iload 75 rfl dX10_grid_73 rfl ?_
      refine zw_iconst 76 rfl dX10_grid_75 ?_
      refine zw_cVr5 79 rfl dX10_grid_76 kX10_grid_234 (Nat.le_of_ble_eq_true rfl) (by first | assumption | exact zx_o0 | exact zx_o _ _ _ rfl) (c_spreadL (g := aSmG (A.1 of.toNat) (A.1 gu.toNat) s r 0) zx_lat hok hq1 hq2 hP1 hP2 (by simp only [zpa]; omega) (by simp only [zpa]; omega) rfl rfl rfl rfl rfl) ?_
      rintro _ _ ⟨rfl, σ2, rfl, f1, f2⟩
      have hP3 : xrPic σ2 (zpa B gu.toNat) (A.1 gu.toNat) := hP2.c (f1 _ (by simp only [zpa]; omega)) (f1 _ (by simp only [zpa]; omega))
      refine zw_aload_n 80 rfl dX10_grid_79 rfl ?_
      refine zw_getr 83 rfl dX10_grid_80 fl_X10_61 (by first | assumption | exact zx_o0 | exact zx_o _ _ _ rfl) (by first | assumption | exact zx_f0 _ _ rfl | exact zx_f _ _ _ rfl) ?_
      refine zw_aload_n 84 rfl dX10_grid_83 rfl ?_
      refine zw_getr 87 rfl dX10_grid_84 fl_X10_11 (by first | assumption | exact zx_o0 | exact zx_o _ _ _ rfl) (by first | assumption | exact zx_f0 _ _ rfl | exact zx_f _ _ _ rfl) ?_
      refine zw_iload_n 88 rfl dX10_grid_87 rfl ?_
      refine zw_aald 89 rfl dX10_grid_88 (by first | assumption | exact zx_o0 | exact zx_o _ _ _ rfl) (by omega) (by omega) (by first | assumption | exact zx_p6r (by omega)) ?_
      refine zw_iload_n 90 rfl dX10_grid_89 rfl ?_
      refine zw_iload 92 rfl dX10_grid_90 rfl ?_
      refine zw_cVr3 95 rfl dX10_grid_92 kX10_grid_238 (Nat.le_of_ble_eq_true rfl) (by first | assumption | exact zx_o0 | exact zx_o _ _ _ rfl) (c_nspread hq2 hP3 hc2.2 hc3.1 hc3.2) ?_
      rintro _ _ ⟨rfl, τ2, rfl, hd⟩
      have hcb : xCB (aSmG (A.1 of.toNat) (A.1 gu.toNat) s r 0) (zCs (A.1 gu.toNat) s r) := fun c hc k => zCs_bit hc (hP3.wh hc2.2).2.2.2 hc4.1.symm hc4.2.symm hc3.1.1 hc3.2.1 (fun x y hx hy => ((hP3.2.2 hc2.2).2.2 x y hx hy).2)
      refine zw_aload_n 96 rfl dX10_grid_95 rfl ?_
      refine zw_getr 99 rfl dX10_grid_96 fl_X10_61 (by first | assumption | exact zx_o0 | exact zx_o _ _ _ rfl) (by first | assumption | exact zx_f0 _ _ rfl | exact zx_f _ _ _ rfl) ?_
      refine zw_cVi0 102 rfl dX10_grid_99 kX10_grid_241 (Nat.le_of_ble_eq_true rfl) (by first | assumption | exact zx_o0 | exact zx_o _ _ _ rfl) (c_ncount hd) ?_
      exact zw_iret (st := []) dX10_grid_102 rfl (xGood (σ := σ) (τ := τ) (by simp only [if_pos hc1, if_pos hc2, if_pos hc3, if_pos hc4]) (hcb.n hok) (h.grid (fun b h1 h2 h3 => by rw [f1 b (by omega), zu_row _ _ (by omega)]) (fun k hk => by rw [f1 B (by omega), zu_k _ _ hk]) (by rw [f1 B (by omega), zu_eq]) f2 (hcb.C hok hd)))
    · refine zw_iconst 55 rfl dX10_grid_54 ?_
      subst hv
      exact zw_iret (st := []) dX10_grid_55 rfl (xRef h h_51 (by (repeat' split) <;> omega))
  refine zw_aload_n 1 rfl dX10_grid_0 rfl ?_
  refine zw_aload_n 2 rfl dX10_grid_1 rfl ?_
  refine zw_iload_n 3 rfl dX10_grid_2 rfl ?_
  refine zw_cVi1 6 rfl dX10_grid_3 kX10_grid_145 (Nat.le_of_ble_eq_true rfl) (by first | assumption | exact zx_o0 | exact zx_o _ _ _ rfl) (c_told h.p hof) ?_
  refine zw_if_eqB 17 9 rfl dX10_grid_6 (by decide) (fun h_6 => ?_) (fun h_6 => ?_)
  · refine zw_iconst 18 rfl dX10_grid_17 ?_
    refine zw_goto 48 dX10_grid_18 (by decide) ?_
    exact J _ (by first | (simp only [if_neg h_6]; done) | (simp only [if_pos h_6, if_pos h_14, if_pos h_27]; rw [if_pos h_40.2.2]) | (simp only [if_pos h_6, if_pos h_14, if_pos h_27]; rw [if_neg (fun q => h_40 ⟨h_6, h_14, q⟩)]))
  · refine zw_aload_n 10 rfl dX10_grid_9 rfl ?_
    refine zw_iload_n 11 rfl dX10_grid_10 rfl ?_
    refine zw_cVi1 14 rfl dX10_grid_11 kX10_grid_145 (Nat.le_of_ble_eq_true rfl) (by first | assumption | exact zx_o0 | exact zx_o _ _ _ rfl) (c_told h.p hgu) ?_
    refine zw_if_neB 21 17 rfl dX10_grid_14 (by decide) (fun h_14 => ?_) (fun h_14 => ?_)
    · refine zw_iload_n 22 rfl dX10_grid_21 rfl ?_
      refine zw_iload 24 rfl dX10_grid_22 rfl ?_
      refine zw_cSi2 27 rfl dX10_grid_24 kX10_grid_227 (Nat.le_of_ble_eq_true rfl) (c_isGridSize hs hr) ?_
      refine zw_if_neB 34 30 rfl dX10_grid_27 (by decide) (fun h_27 => ?_) (fun h_27 => ?_)
      · refine zw_aload_n 35 rfl dX10_grid_34 rfl ?_
        refine zw_iload_n 36 rfl dX10_grid_35 rfl ?_
        refine zw_iload_n 37 rfl dX10_grid_36 rfl ?_
        refine zw_cVi2 40 rfl dX10_grid_37 kX10_grid_231 (Nat.le_of_ble_eq_true rfl) (by first | assumption | exact zx_o0 | exact zx_o _ _ _ rfl) (c_alike h.p hof hgu) ?_
        refine zw_if_neB 47 43 rfl dX10_grid_40 (by decide) (fun h_40 => ?_) (fun h_40 => ?_)
        · refine zw_iconst 48 rfl dX10_grid_47 ?_
          exact J _ (by first | (simp only [if_pos h_6, if_pos h_14, if_pos h_27, if_pos h_40]; done) | (simp only [if_pos h_6, if_pos h_14, if_pos h_27]; rw [if_pos h_40.2.2]) | (simp only [if_pos h_6, if_pos h_14, if_pos h_27]; rw [if_neg (fun q => h_40 ⟨h_6, h_14, q⟩)]))
        · refine zw_iconst 44 rfl dX10_grid_43 ?_
          refine zw_goto 48 dX10_grid_44 (by decide) ?_
          exact J _ (by first | (simp only [if_pos h_6, if_pos h_14, if_pos h_27, if_neg h_40]; done) | (simp only [if_pos h_6, if_pos h_14, if_pos h_27]; rw [if_pos h_40.2.2]) | (simp only [if_pos h_6, if_pos h_14, if_pos h_27]; rw [if_neg (fun q => h_40 ⟨h_6, h_14, q⟩)]))
      · refine zw_iconst 31 rfl dX10_grid_30 ?_
        refine zw_goto 48 dX10_grid_31 (by decide) ?_
        exact J _ (by first | (simp only [if_pos h_6, if_pos h_14, if_neg h_27]; done) | (simp only [if_pos h_6, if_pos h_14, if_pos h_27]; rw [if_pos h_40.2.2]) | (simp only [if_pos h_6, if_pos h_14, if_pos h_27]; rw [if_neg (fun q => h_40 ⟨h_6, h_14, q⟩)]))
    · refine zw_iconst 18 rfl dX10_grid_17 ?_
      refine zw_goto 48 dX10_grid_18 (by decide) ?_
      exact J _ (by first | (simp only [if_pos h_6, if_neg h_14]; done) | (simp only [if_pos h_6, if_pos h_14, if_pos h_27]; rw [if_pos h_40.2.2]) | (simp only [if_pos h_6, if_pos h_14, if_pos h_27]; rw [if_neg (fun q => h_40 ⟨h_6, h_14, q⟩)]))
def sp_gridded (A : zA) (what : Int) : Int × zA := aAns (if aMade A then if 0 ≤ what ∧ what ≤ 5 then 0 else 1 else 1) (-1) A (if what = 0 then (aGG A).2.2.1 else if what = 1 then (aGG A).2.2.2.1 else if what = 5 then zDn (zDb (aGG A)) else zGy (aGG A) (what - 2), A)
theorem X_gridded {G : zG} {B : Nat} {σ τ : zSt} {A : zA} {what : Int} (h : zxR B σ τ A) (hwhat : -2147483648 ≤ what ∧ what ≤ 2147483647) : zC G M_X10_gridded [.ref B, vi what] (zxS B, σ, τ) (xQ B (sp_gridded A what)) := by
  refine zC_of 0 rfl (Nat.le_of_ble_eq_true rfl) ?_
  have J : ∀ v : Int, v = (if aMade A then if 0 ≤ what ∧ what ≤ 5 then 0 else 1 else 1) → zW G M_X10_gridded (xQ B (sp_gridded A what)) 25 [some (.ref B), some (vi what)] [vi v, .ref B] (zxS B, σ, τ) := by
    intro v hv

    refine zw_cVi1 28 rfl dX10_gridded_25 kX10_gridded_105 (Nat.le_of_ble_eq_true rfl) (by first | assumption | exact zx_o0 | exact zx_o _ _ _ rfl) (c_refused (by rw [hv]; (repeat' split) <;> omega)) ?_
    refine zw_if_eqB 33 31 rfl dX10_gridded_28 (by decide) (fun h_28 => ?_) (fun h_28 => ?_)
    · have hc1 : aMade A := Decidable.byContradiction fun q => by rw [if_neg q] at hv; (try split at hv) <;> omega
      rw [if_pos hc1] at hv
      have hc2 : 0 ≤ what ∧ what ≤ 5 := Decidable.byContradiction fun q => by rw [if_neg q] at hv; (try split at hv) <;> omega
      rw [if_pos hc2] at hv
      subst hv
      have hL := (h.made hc1).1.scr (xScr.z (v := 0))
      have hD := (h.made hc1).2.D hL.1
      refine zw_iload_n 34 rfl dX10_gridded_33 rfl ?_
      rcases (show what = 0 ∨ what = 1 ∨ what = 5 ∨ (¬ what = 0 ∧ ¬ what = 1 ∧ ¬ what = 5) by omega) with h_34 | h_34 | h_34 | h_34
      · refine zw_lookup (off := 34) 68 dX10_gridded_34 (by decide) (by omega) (by rw [h_34]; rfl) (by decide) ?_
        refine zw_aload_n 69 rfl dX10_gridded_68 rfl ?_
        refine zw_getr 72 rfl dX10_gridded_69 fl_X10_54 (by first | assumption | exact zx_o0 | exact zx_o _ _ _ rfl) (by first | assumption | exact zx_f0 _ _ rfl | exact zx_f _ _ _ rfl) ?_
        refine zw_geti 75 rfl dX10_gridded_72 fl_X10_246 (by first | assumption | exact zx_o0 | exact zx_o _ _ _ rfl) ?_
        exact zw_iret (st := []) dX10_gridded_75 rfl (xRead h (by simp only [if_pos hc1, if_pos hc2]) xScr.z rfl (zu_eq _ _ _ _) (by rw [if_pos h_34]; exact hL.2.2.2.1) rfl)
      · refine zw_lookup (off := 42) 76 dX10_gridded_34 (by decide) (by omega) (by rw [h_34]; rfl) (by decide) ?_
        refine zw_aload_n 77 rfl dX10_gridded_76 rfl ?_
        refine zw_getr 80 rfl dX10_gridded_77 fl_X10_54 (by first | assumption | exact zx_o0 | exact zx_o _ _ _ rfl) (by first | assumption | exact zx_f0 _ _ rfl | exact zx_f _ _ _ rfl) ?_
        refine zw_geti 83 rfl dX10_gridded_80 fl_X10_249 (by first | assumption | exact zx_o0 | exact zx_o _ _ _ rfl) ?_
        exact zw_iret (st := []) dX10_gridded_83 rfl (xRead h (by simp only [if_pos hc1, if_pos hc2]) xScr.z rfl (zu_eq _ _ _ _) (by rw [if_neg (by omega), if_pos h_34]; exact hL.2.2.2.2.1) rfl)
      · refine zw_lookup (off := 50) 84 dX10_gridded_34 (by decide) (by omega) (by rw [h_34]; rfl) (by decide) ?_
        refine zw_aload_n 85 rfl dX10_gridded_84 rfl ?_
        refine zw_getr 88 rfl dX10_gridded_85 fl_X10_61 (by first | assumption | exact zx_o0 | exact zx_o _ _ _ rfl) (by first | assumption | exact zx_f0 _ _ rfl | exact zx_f _ _ _ rfl) ?_
        refine zw_cVi0 91 rfl dX10_gridded_88 kX10_gridded_241 (Nat.le_of_ble_eq_true rfl) (by first | assumption | exact zx_o0 | exact zx_o _ _ _ rfl) (c_ncount hD.1) ?_
        exact zw_iret (st := []) dX10_gridded_91 rfl (xRead h (by simp only [if_pos hc1, if_pos hc2]) xScr.z rfl (zu_eq _ _ _ _) (by rw [if_neg (by omega), if_neg (by omega), if_pos h_34]; exact hD.2.n hL.1) rfl)
      · refine zw_lookup (off := 58) 92 dX10_gridded_34 (by decide) (by omega) (by simp [Op.lookupswitch.offset, h_34] <;> (repeat' split) <;> omega) (by decide) ?_
        refine zw_aload_n 93 rfl dX10_gridded_92 rfl ?_
        refine zw_getr 96 rfl dX10_gridded_93 fl_X10_54 (by first | assumption | exact zx_o0 | exact zx_o _ _ _ rfl) (by first | assumption | exact zx_f0 _ _ rfl | exact zx_f _ _ _ rfl) ?_
        refine zw_iload_n 97 rfl dX10_gridded_96 rfl ?_
        refine zw_iconst 98 rfl dX10_gridded_97 ?_
        refine zw_isub 99 rfl dX10_gridded_98 ?_
        refine zw_cVi1 102 rfl dX10_gridded_99 kX10_gridded_252 (Nat.le_of_ble_eq_true rfl) (by first | assumption | exact zx_o0 | exact zx_o _ _ _ rfl) (c_blursAlong zx_lat (by omega)) ?_
        exact zw_iret (st := []) dX10_gridded_102 rfl (xRead h (by simp only [if_pos hc1, if_pos hc2]) xScr.z rfl (zu_eq _ _ _ _) (by rw [if_neg (by omega), if_neg (by omega), if_neg (by omega)]; exact hL.y (by omega)) rfl)
    · refine zw_iconst 32 rfl dX10_gridded_31 ?_
      subst hv
      exact zw_iret (st := []) dX10_gridded_32 rfl (xRef h h_28 (by (repeat' split) <;> omega))
  refine zw_aload_n 1 rfl dX10_gridded_0 rfl ?_
  refine zw_aload_n 2 rfl dX10_gridded_1 rfl ?_
  refine zw_getr 5 rfl dX10_gridded_2 fl_X10_54 (by first | assumption | exact zx_o0 | exact zx_o _ _ _ rfl) (by first | assumption | exact zx_f0 _ _ rfl | exact zx_f _ _ _ rfl) ?_
  refine zw_cVi0 8 rfl dX10_gridded_5 kX10_gridded_242 (Nat.le_of_ble_eq_true rfl) (by first | assumption | exact zx_o0 | exact zx_o _ _ _ rfl) (c_made h) ?_
  refine zw_if_eqB 24 11 rfl dX10_gridded_8 (by decide) (fun h_8 => ?_) (fun h_8 => ?_)
  · refine zw_iconst 25 rfl dX10_gridded_24 ?_
    exact J _ (by simp only [if_neg h_8])
  · refine zw_iload_n 12 rfl dX10_gridded_11 rfl ?_
    refine zw_iconst 13 rfl dX10_gridded_12 ?_
    refine zw_iconst 14 rfl dX10_gridded_13 ?_
    refine zw_cSi3 17 rfl dX10_gridded_14 kX10_gridded_101 (Nat.le_of_ble_eq_true rfl) (c_within (by omega) (by omega) (by omega)) ?_
    refine zw_if_eqB 24 20 rfl dX10_gridded_17 (by decide) (fun h_17 => ?_) (fun h_17 => ?_)
    · refine zw_iconst 25 rfl dX10_gridded_24 ?_
      exact J _ (by simp only [if_pos h_8, if_neg h_17])
    · refine zw_iconst 21 rfl dX10_gridded_20 ?_
      refine zw_goto 25 dX10_gridded_21 (by decide) ?_
      exact J _ (by simp only [if_pos h_8, if_pos h_17])
def sp_nth (A : zA) (m what : Int) : Int × zA := aAns (if aMade A then if 0 ≤ what ∧ what ≤ 2 then if 0 ≤ m then 0 else 1 else 1 else 1) (-1) A (zDm (zDb (aGG A)) what 396 0 m, A)
theorem X_nth {G : zG} {B : Nat} {σ τ : zSt} {A : zA} {m what : Int} (h : zxR B σ τ A) (hm : -2147483648 ≤ m ∧ m ≤ 2147483647) (hwhat : -2147483648 ≤ what ∧ what ≤ 2147483647) : zC G M_X10_nth [.ref B, vi m, vi what] (zxS B, σ, τ) (xQ B (sp_nth A m what)) := by
  refine zC_of 0 rfl (Nat.le_of_ble_eq_true rfl) ?_
  have J : ∀ v : Int, v = (if aMade A then if 0 ≤ what ∧ what ≤ 2 then if 0 ≤ m then 0 else 1 else 1 else 1) → zW G M_X10_nth (xQ B (sp_nth A m what)) 29 [some (.ref B), some (vi m), some (vi what)] [vi v, .ref B] (zxS B, σ, τ) := by
    intro v hv

    refine zw_cVi1 32 rfl dX10_nth_29 kX10_nth_105 (Nat.le_of_ble_eq_true rfl) (by first | assumption | exact zx_o0 | exact zx_o _ _ _ rfl) (c_refused (by rw [hv]; (repeat' split) <;> omega)) ?_
    refine zw_if_eqB 37 35 rfl dX10_nth_32 (by decide) (fun h_32 => ?_) (fun h_32 => ?_)
    · have hc1 : aMade A := Decidable.byContradiction fun q => by rw [if_neg q] at hv; (try split at hv) <;> omega
      rw [if_pos hc1] at hv
      have hc2 : 0 ≤ what ∧ what ≤ 2 := Decidable.byContradiction fun q => by rw [if_neg q] at hv; (try split at hv) <;> omega
      rw [if_pos hc2] at hv
      have hc3 : 0 ≤ m := Decidable.byContradiction fun q => by rw [if_neg q] at hv; (try split at hv) <;> omega
      rw [if_pos hc3] at hv
      subst hv
      have hL := (h.made hc1).1.scr (xScr.z (v := 0))
      have hD := (h.made hc1).2.D hL.1
      refine zw_aload_n 38 rfl dX10_nth_37 rfl ?_
      refine zw_getr 41 rfl dX10_nth_38 fl_X10_61 (by first | assumption | exact zx_o0 | exact zx_o _ _ _ rfl) (by first | assumption | exact zx_f0 _ _ rfl | exact zx_f _ _ _ rfl) ?_
      refine zw_iload_n 42 rfl dX10_nth_41 rfl ?_
      refine zw_iload_n 43 rfl dX10_nth_42 rfl ?_
      refine zw_cVi2 46 rfl dX10_nth_43 kX10_nth_261 (Nat.le_of_ble_eq_true rfl) (by first | assumption | exact zx_o0 | exact zx_o _ _ _ rfl) (c_placeOf hD.1 (by omega) (by omega)) ?_
      exact zw_iret (st := []) dX10_nth_46 rfl (xRead h (by simp only [if_pos hc1, if_pos hc2, if_pos hc3]) xScr.z rfl (zu_eq _ _ _ _) (hD.2.m hL.1 396 0 m (by omega)) rfl)
    · refine zw_iconst 36 rfl dX10_nth_35 ?_
      subst hv
      exact zw_iret (st := []) dX10_nth_36 rfl (xRef h h_32 (by (repeat' split) <;> omega))
  refine zw_aload_n 1 rfl dX10_nth_0 rfl ?_
  refine zw_aload_n 2 rfl dX10_nth_1 rfl ?_
  refine zw_getr 5 rfl dX10_nth_2 fl_X10_54 (by first | assumption | exact zx_o0 | exact zx_o _ _ _ rfl) (by first | assumption | exact zx_f0 _ _ rfl | exact zx_f _ _ _ rfl) ?_
  refine zw_cVi0 8 rfl dX10_nth_5 kX10_nth_242 (Nat.le_of_ble_eq_true rfl) (by first | assumption | exact zx_o0 | exact zx_o _ _ _ rfl) (c_made h) ?_
  refine zw_if_eqB 28 11 rfl dX10_nth_8 (by decide) (fun h_8 => ?_) (fun h_8 => ?_)
  · refine zw_iconst 29 rfl dX10_nth_28 ?_
    exact J _ (by first | (simp only [if_neg h_8]; done) | (simp only [if_pos h_8, if_pos h_17]; rw [if_neg (by omega)]) | (simp only [if_pos h_8, if_pos h_17]; rw [if_pos (by omega)]))
  · refine zw_iload_n 12 rfl dX10_nth_11 rfl ?_
    refine zw_iconst 13 rfl dX10_nth_12 ?_
    refine zw_iconst 14 rfl dX10_nth_13 ?_
    refine zw_cSi3 17 rfl dX10_nth_14 kX10_nth_101 (Nat.le_of_ble_eq_true rfl) (c_within (by omega) (by omega) (by omega)) ?_
    refine zw_if_eqB 28 20 rfl dX10_nth_17 (by decide) (fun h_17 => ?_) (fun h_17 => ?_)
    · refine zw_iconst 29 rfl dX10_nth_28 ?_
      exact J _ (by first | (simp only [if_pos h_8, if_neg h_17]; done) | (simp only [if_pos h_8, if_pos h_17]; rw [if_neg (by omega)]) | (simp only [if_pos h_8, if_pos h_17]; rw [if_pos (by omega)]))
    · refine zw_iload_n 21 rfl dX10_nth_20 rfl ?_
      refine zw_if_lt 28 24 rfl dX10_nth_21 (by decide) (by omega) (fun h_21 => ?_) (fun h_21 => ?_)
      · refine zw_iconst 29 rfl dX10_nth_28 ?_
        exact J _ (by first | (simp only [if_pos h_8, if_pos h_17, if_pos h_21]; done) | (simp only [if_pos h_8, if_pos h_17]; rw [if_neg (by omega)]) | (simp only [if_pos h_8, if_pos h_17]; rw [if_pos (by omega)]))
      · refine zw_iconst 25 rfl dX10_nth_24 ?_
        refine zw_goto 29 dX10_nth_25 (by decide) ?_
        exact J _ (by first | (simp only [if_pos h_8, if_pos h_17, if_neg h_21]; done) | (simp only [if_pos h_8, if_pos h_17]; rw [if_neg (by omega)]) | (simp only [if_pos h_8, if_pos h_17]; rw [if_pos (by omega)]))
def sp_blur (A : zA) (y : Int) : Int × zA := aAns (if aMade A then if 0 ≤ y ∧ y ≤ 2 then if zGy (aGG A) y < 3 then 0 else 3 else 1 else 1) (-1) A (zDn (zDb (zGb (aGG A) y)), aGs A (zGb (aGG A) y))
theorem X_blur {G : zG} {B : Nat} {σ τ : zSt} {A : zA} {y : Int} (h : zxR B σ τ A) (hy : -2147483648 ≤ y ∧ y ≤ 2147483647) : zC G M_X10_blur [.ref B, vi y] (zxS B, σ, τ) (xQ B (sp_blur A y)) := by
  refine zC_of 0 rfl (Nat.le_of_ble_eq_true rfl) ?_
  have J : ∀ v : Int, v = (if aMade A then if 0 ≤ y ∧ y ≤ 2 then if zGy (aGG A) y < 3 then 0 else 3 else 1 else 1) → zW G M_X10_blur (xQ B (sp_blur A y)) 41 [some (.ref B), some (vi y)] [vi v, .ref B] (zxS B, σ, τ) := by
    intro v hv

    refine zw_cVi1 44 rfl dX10_blur_41 kX10_blur_105 (Nat.le_of_ble_eq_true rfl) (by first | assumption | exact zx_o0 | exact zx_o _ _ _ rfl) (c_refused (by rw [hv]; (repeat' split) <;> omega)) ?_
    refine zw_if_eqB 49 47 rfl dX10_blur_44 (by decide) (fun h_44 => ?_) (fun h_44 => ?_)
    · have hc1 : aMade A := Decidable.byContradiction fun q => by rw [if_neg q] at hv; (try split at hv) <;> omega
      rw [if_pos hc1] at hv
      have hc2 : 0 ≤ y ∧ y ≤ 2 := Decidable.byContradiction fun q => by rw [if_neg q] at hv; (try split at hv) <;> omega
      rw [if_pos hc2] at hv
      have hc3 : zGy (aGG A) y < 3 := Decidable.byContradiction fun q => by rw [if_neg q] at hv; (try split at hv) <;> omega
      rw [if_pos hc3] at hv
      subst hv
      have hL := (h.made hc1).1.scr (xScr.z (v := 0))
      have hD := (h.made hc1).2.D hL.1
      refine zw_aload_n 50 rfl dX10_blur_49 rfl ?_
      refine zw_getr 53 rfl dX10_blur_50 fl_X10_54 (by first | assumption | exact zx_o0 | exact zx_o _ _ _ rfl) (by first | assumption | exact zx_f0 _ _ rfl | exact zx_f _ _ _ rfl) ?_
      refine zw_iload_n 54 rfl dX10_blur_53 rfl ?_
      refine zw_cVr1 57 rfl dX10_blur_54 kX10_blur_268 (Nat.le_of_ble_eq_true rfl) (by first | assumption | exact zx_o0 | exact zx_o _ _ _ rfl) (c_blurAlong zx_lat hL hc2 hc3) ?_
      rintro _ _ ⟨rfl, σ2, rfl, f1, f2⟩
      refine zw_aload_n 58 rfl dX10_blur_57 rfl ?_
      refine zw_getr 61 rfl dX10_blur_58 fl_X10_61 (by first | assumption | exact zx_o0 | exact zx_o _ _ _ rfl) (by first | assumption | exact zx_f0 _ _ rfl | exact zx_f _ _ _ rfl) ?_
      refine zw_iload_n 62 rfl dX10_blur_61 rfl ?_
      refine zw_cVr1 65 rfl dX10_blur_62 kX10_blur_271 (Nat.le_of_ble_eq_true rfl) (by first | assumption | exact zx_o0 | exact zx_o _ _ _ rfl) (c_widen hD.1 (fun c hc => hD.2.lt hL.1 hc) hc2) ?_
      rintro _ _ ⟨rfl, τ2, rfl, hd⟩
      have hcb := hD.2.wd hL.1 hc2 hc3
      refine zw_aload_n 66 rfl dX10_blur_65 rfl ?_
      refine zw_getr 69 rfl dX10_blur_66 fl_X10_61 (by first | assumption | exact zx_o0 | exact zx_o _ _ _ rfl) (by first | assumption | exact zx_f0 _ _ rfl | exact zx_f _ _ _ rfl) ?_
      refine zw_cVi0 72 rfl dX10_blur_69 kX10_blur_241 (Nat.le_of_ble_eq_true rfl) (by first | assumption | exact zx_o0 | exact zx_o _ _ _ rfl) (c_ncount hd) ?_
      exact zw_iret (st := []) dX10_blur_72 rfl (xGood (σ := σ) (τ := τ) (by simp only [if_pos hc1, if_pos hc2, if_pos hc3]) (hcb.n f2.1) (h.grid (fun b h1 h2 h3 => by rw [f1 b (by omega), zu_row _ _ (by omega)]) (fun k hk => by rw [f1 B (by omega), zu_k _ _ hk]) (by rw [f1 B (by omega), zu_eq]) f2 (hcb.C f2.1 hd)))
    · refine zw_iconst 48 rfl dX10_blur_47 ?_
      subst hv
      exact zw_iret (st := []) dX10_blur_48 rfl (xRef h h_44 (by (repeat' split) <;> omega))
  refine zw_aload_n 1 rfl dX10_blur_0 rfl ?_
  refine zw_aload_n 2 rfl dX10_blur_1 rfl ?_
  refine zw_getr 5 rfl dX10_blur_2 fl_X10_54 (by first | assumption | exact zx_o0 | exact zx_o _ _ _ rfl) (by first | assumption | exact zx_f0 _ _ rfl | exact zx_f _ _ _ rfl) ?_
  refine zw_cVi0 8 rfl dX10_blur_5 kX10_blur_242 (Nat.le_of_ble_eq_true rfl) (by first | assumption | exact zx_o0 | exact zx_o _ _ _ rfl) (c_made h) ?_
  refine zw_if_eqB 20 11 rfl dX10_blur_8 (by decide) (fun h_8 => ?_) (fun h_8 => ?_)
  · refine zw_iconst 21 rfl dX10_blur_20 ?_
    refine zw_goto 41 dX10_blur_21 (by decide) ?_
    exact J _ (by first | (simp only [if_neg h_8]; done) | (simp only [if_pos h_8, if_pos h_17]; rw [if_neg (by omega)]) | (simp only [if_pos h_8, if_pos h_17]; rw [if_pos (by omega)]))
  · refine zw_iload_n 12 rfl dX10_blur_11 rfl ?_
    refine zw_iconst 13 rfl dX10_blur_12 ?_
    refine zw_iconst 14 rfl dX10_blur_13 ?_
    refine zw_cSi3 17 rfl dX10_blur_14 kX10_blur_101 (Nat.le_of_ble_eq_true rfl) (c_within (by omega) (by omega) (by omega)) ?_
    refine zw_if_neB 24 20 rfl dX10_blur_17 (by decide) (fun h_17 => ?_) (fun h_17 => ?_)
    · have hL := (h.made h_8).1
      have hyv := hL.y h_17
      have hyr : 0 ≤ zGy (aGG A) y ∧ zGy (aGG A) y ≤ 3 := by
        have a7 := hL.1.2.2.2.2.2.2.1
        have a8 := hL.1.2.2.2.2.2.2.2.1
        have a9 := hL.1.2.2.2.2.2.2.2.2.1
        unfold zGy; (repeat' split) <;> omega
      refine zw_aload_n 25 rfl dX10_blur_24 rfl ?_
      refine zw_getr 28 rfl dX10_blur_25 fl_X10_54 (by first | assumption | exact zx_o0 | exact zx_o _ _ _ rfl) (by first | assumption | exact zx_f0 _ _ rfl | exact zx_f _ _ _ rfl) ?_
      refine zw_iload_n 29 rfl dX10_blur_28 rfl ?_
      refine zw_cVi1 32 rfl dX10_blur_29 kX10_blur_252 (Nat.le_of_ble_eq_true rfl) (by first | assumption | exact zx_o0 | exact zx_o _ _ _ rfl) (c_blursAlong zx_lat h_17) ?_
      rw [hyv]
      refine zw_iconst 33 rfl dX10_blur_32 ?_
      refine zw_icmp_lt 40 36 rfl dX10_blur_33 (by decide) (by omega) (by omega) (fun h_33 => ?_) (fun h_33 => ?_)
      · refine zw_iconst 41 rfl dX10_blur_40 ?_
        exact J _ (by first | (simp only [if_pos h_8, if_pos h_17, if_pos h_33]; done) | (simp only [if_pos h_8, if_pos h_17]; rw [if_neg (by omega)]) | (simp only [if_pos h_8, if_pos h_17]; rw [if_pos (by omega)]))
      · refine zw_iconst 37 rfl dX10_blur_36 ?_
        refine zw_goto 41 dX10_blur_37 (by decide) ?_
        exact J _ (by first | (simp only [if_pos h_8, if_pos h_17, if_neg h_33]; done) | (simp only [if_pos h_8, if_pos h_17]; rw [if_neg (by omega)]) | (simp only [if_pos h_8, if_pos h_17]; rw [if_pos (by omega)]))
    · refine zw_iconst 21 rfl dX10_blur_20 ?_
      refine zw_goto 41 dX10_blur_21 (by decide) ?_
      exact J _ (by first | (simp only [if_pos h_8, if_neg h_17]; done) | (simp only [if_pos h_8, if_pos h_17]; rw [if_neg (by omega)]) | (simp only [if_pos h_8, if_pos h_17]; rw [if_pos (by omega)]))
