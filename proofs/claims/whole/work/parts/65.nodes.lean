/-! ===== the columns of nodes ===== -/
def xrD (B : Nat) (τ1 : zSt) (C : Nat → Nat) (τs : zSt) : Prop := (∀ b, b ≠ B + 56 → τs b = τ1 b) ∧ ∀ c, c < 396 → τs (B + 56) c = (C c : Int) ∧ C c < 1099511627776
def zCa (C : Nat → Nat) (i j : Int) (b : Nat) : Nat → Nat := fun c => if c = ((i + 3) * 18 + (j + 3)).toNat then C c ||| b else C c
theorem c_nadd {G : zG} {B : Nat} {σ τ τ1 : zSt} {C : Nat → Nat} {i j : Int} {b : Nat} (h : xrD B τ1 C τ) (hi : -3 ≤ i ∧ i ≤ 18) (hj : -3 ≤ j ∧ j ≤ 14) (hb : b < 1099511627776) : zC G M_X3_add [.ref (B + 55), vi i, vi j, vl b] (zxS B, σ, τ) (fun v w => v = none ∧ ∃ τ' : zSt, w = (zxS B, σ, τ') ∧ xrD B τ1 (zCa C i j b) τ') := by
  refine zC_of 2 rfl (Nat.le_of_ble_eq_true rfl) ?_
  have hc := h.2 ((i + 3) * 18 + (j + 3)).toNat (by omega)
  have fin : zW G M_X3_add (fun v w => v = none ∧ ∃ τ' : zSt, w = (zxS B, σ, τ') ∧ xrD B τ1 (zCa C i j b) τ') 49 [some (.ref (B + 55)), some (vi i), some (vi j), some (vl b), none, some (vi (i + 3)), some (vi (j + 3))] [] (zxS B, σ, zu τ (B + 56) ((i + 3) * 18 + (j + 3)).toNat ((C ((i + 3) * 18 + (j + 3)).toNat ||| b : Nat) : Int)) := by
    refine zw_vret (st := []) dX3_add_49 rfl ⟨rfl, _, rfl, fun c q => by rw [zu_row _ _ q]; exact h.1 c q, fun c q => ?_⟩
    unfold zCa
    by_cases e : c = ((i + 3) * 18 + (j + 3)).toNat
    · rw [if_pos e, e, zu_eq]; exact ⟨rfl, Nat.or_lt_two_pow (n := 40) hc.2 hb⟩
    · rw [if_neg e, zu_k _ _ e]; exact h.2 c q
  refine zw_iload_n 1 rfl dX3_add_0 rfl ?_
  refine zw_iconst 2 rfl dX3_add_1 ?_
  refine zw_iadd 3 rfl dX3_add_2 ?_
  refine zw_istore 5 rfl dX3_add_3 (Nat.le_of_ble_eq_true rfl) rfl ?_
  refine zw_iload_n 6 rfl dX3_add_5 rfl ?_
  refine zw_iconst 7 rfl dX3_add_6 ?_
  refine zw_iadd 8 rfl dX3_add_7 ?_
  refine zw_istore 10 rfl dX3_add_8 (Nat.le_of_ble_eq_true rfl) rfl ?_
  refine zw_iload 12 rfl dX3_add_10 rfl ?_
  refine zw_iconst 13 rfl dX3_add_12 ?_
  refine zw_bipush 15 rfl dX3_add_13 rfl ?_
  refine zw_cSi3 18 rfl dX3_add_15 kX3_add_48 (Nat.le_of_ble_eq_true rfl) (c_within (by omega) (by omega) (by omega)) ?_
  refine zw_if_eqB 49 21 rfl dX3_add_18 (by decide) (fun h_18 => ?_) (fun h_18 => ?_)
  · first | (exfalso; omega) | exact fin
  · refine zw_iload 23 rfl dX3_add_21 rfl ?_
    refine zw_iconst 24 rfl dX3_add_23 ?_
    refine zw_bipush 26 rfl dX3_add_24 rfl ?_
    refine zw_cSi3 29 rfl dX3_add_26 kX3_add_48 (Nat.le_of_ble_eq_true rfl) (c_within (by omega) (by omega) (by omega)) ?_
    refine zw_if_eqB 49 32 rfl dX3_add_29 (by decide) (fun h_29 => ?_) (fun h_29 => ?_)
    · first | (exfalso; omega) | exact fin
    · refine zw_aload_n 33 rfl dX3_add_32 rfl ?_
      refine zw_getr 36 rfl dX3_add_33 fl_X3_11 (by first | assumption | exact zx_o0 | exact zx_o _ _ _ rfl) (by first | assumption | exact zx_f0 _ _ rfl | exact zx_f _ _ _ rfl) ?_
      refine zw_iload 38 rfl dX3_add_36 rfl ?_
      refine zw_bipush 40 rfl dX3_add_38 rfl ?_
      refine zw_imul 41 rfl dX3_add_40 ?_
      refine zw_iload 43 rfl dX3_add_41 rfl ?_
      refine zw_iadd 44 rfl dX3_add_43 ?_
      refine zw_dup2_11 45 rfl dX3_add_44 rfl rfl ?_
      refine zw_lald 46 rfl dX3_add_45 (by first | assumption | exact zx_o0 | exact zx_o _ _ _ rfl) (by omega) (by omega) ?_
      rw [hc.1]
      refine zw_lload_n 47 rfl dX3_add_46 rfl ?_
      refine zw_lor 48 rfl dX3_add_47 ?_
      rw [zL_or]
      refine zw_last 49 rfl dX3_add_48 (by first | assumption | exact zx_o0 | exact zx_o _ _ _ rfl) (by omega) (by omega) ?_
      first | (exfalso; omega) | exact fin
def zSN (v r : Int) : Nat := (if 0 < v % r then 3 else 1) * 2 ^ (v / r + 3).toNat
theorem zSN_r {v r : Int} (hv : 0 ≤ v ∧ v ≤ 255) (hr : 8 ≤ r) : zSN v r < 1099511627776 := by
  have := zz_q31 (v := v) (z := r) (Or.inr (by omega))
  unfold zSN
  have h1 : 2 ^ (v / r + 3).toNat ≤ 2 ^ 34 := Nat.pow_le_pow_right (by omega) (by omega)
  split <;> omega
theorem c_shadeNodes {G : zG} {S : zSh} {σ τ : zSt} {v r : Int} (hv : 0 ≤ v ∧ v ≤ 255) (hr : 8 ≤ r ∧ r ≤ 128) : zC G M_X3_shadeNodes [vi v, vi r] (S, σ, τ) (zR (some (vl (zSN v r : Nat))) (S, σ, τ)) := by
  have hq := zz_q31 (v := v) (z := r) (Or.inr (by omega))
  have hm := zz_rem (v := v) (z := r) (by omega)
  refine zC_of 1 rfl (Nat.le_of_ble_eq_true rfl) ?_
  have e : v / r + 3 = (((v / r + 3).toNat : Nat) : Int) := by omega
  have L25 : ∀ m : Nat, m = (if 0 < v % r then 3 else 1) → zW G M_X3_shadeNodes (zR (some (vl (zSN v r : Nat))) (S, σ, τ)) 25 [some (vi v), some (vi r), some (vi (v / r + 3))] [vl m] (S, σ, τ) := by
    intro m hm
    refine zw_iload_n 26 rfl dX3_shadeNodes_25 rfl ?_
    refine zw_lshl 27 rfl dX3_shadeNodes_26 ?_
    rw [e, zL_shln _ (by omega)]
    exact zw_lretR dX3_shadeNodes_27 rfl (by unfold zSN; rw [hm]) rfl
  refine zw_iload_n 1 rfl dX3_shadeNodes_0 rfl ?_
  refine zw_if_gt 6 4 rfl dX3_shadeNodes_1 (by decide) (by omega) (fun h_1 => ?_) (fun h_1 => ?_)
  · refine zw_iload_n 7 rfl dX3_shadeNodes_6 rfl ?_
    refine zw_iload_n 8 rfl dX3_shadeNodes_7 rfl ?_
    refine zw_idiv 9 rfl dX3_shadeNodes_8 (by omega) (by omega) ?_
    refine zw_iconst 10 rfl dX3_shadeNodes_9 ?_
    refine zw_iadd 11 rfl dX3_shadeNodes_10 ?_
    refine zw_istore_n 12 rfl dX3_shadeNodes_11 (Nat.le_of_ble_eq_true rfl) rfl ?_
    refine zw_iload_n 13 rfl dX3_shadeNodes_12 rfl ?_
    refine zw_iload_n 14 rfl dX3_shadeNodes_13 rfl ?_
    refine zw_irem 15 rfl dX3_shadeNodes_14 (by omega) (by omega) ?_
    refine zw_if_le 24 18 rfl dX3_shadeNodes_15 (by decide) (by omega) (fun h_15 => ?_) (fun h_15 => ?_)
    · refine zw_lconst 25 rfl dX3_shadeNodes_24 ?_
      first | exact L25 3 (by rw [if_pos (by omega)]) | exact L25 1 (by rw [if_neg (by omega)])
    · refine zw_ldc2_w 21 rfl dX3_shadeNodes_18 kX3_46 ?_
      refine zw_goto 25 dX3_shadeNodes_21 (by decide) ?_
      first | exact L25 3 (by rw [if_pos (by omega)]) | exact L25 1 (by rw [if_neg (by omega)])
  · omega
def zCd (C : Nat → Nat) (x y s : Int) (b : Nat) : Nat → Nat := zCa (zCa (zCa (zCa C (x / s) (y / s) b) (x / s + 1) (y / s) (if 0 < x % s then b else 0)) (x / s) (y / s + 1) (if 0 < y % s then b else 0)) (x / s + 1) (y / s + 1) (if 0 < x % s then if 0 < y % s then b else 0 else 0)
theorem c_spreadDot {G : zG} {B : Nat} {σ τ τ1 : zSt} {C : Nat → Nat} {x y s : Int} {b : Nat} (h : xrD B τ1 C τ) (hx : 0 ≤ x ∧ x ≤ 15) (hy : 0 ≤ y ∧ y ≤ 11) (hs : 1 ≤ s ∧ s ≤ 8) (hb : b < 1099511627776) : zC G M_X3_spreadDot [.ref (B + 55), vi x, vi y, vi s, vl b] (zxS B, σ, τ) (fun v w => v = none ∧ ∃ τ' : zSt, w = (zxS B, σ, τ') ∧ xrD B τ1 (zCd C x y s b) τ') := by
  have hq1 := zz_quo (v := x) (z := s) (by omega) hx.1
  have hq2 := zz_quo (v := y) (z := s) (by omega) hy.1
  have hm1 := zz_rem (v := x) (z := s) (by omega)
  have hm2 := zz_rem (v := y) (z := s) (by omega)
  have ho : zo (zxS B) (B + 55) 3 0 := zx_o 55 3 0 rfl
  refine zC_of 4 rfl (Nat.le_of_ble_eq_true rfl) ?_
  have body : ∀ u v : Int, u = zb (0 < x % s) → v = zb (0 < y % s) → zW G M_X3_spreadDot (fun v w => v = none ∧ ∃ τ' : zSt, w = (zxS B, σ, τ') ∧ xrD B τ1 (zCd C x y s b) τ') 41 [some (.ref (B + 55)), some (vi x), some (vi y), some (vi s), some (vl b), none, some (vi (x / s)), some (vi (y / s)), some (vi u), some (vi v)] [] (zxS B, σ, τ) := by
    intro u v hu hv
    have hur : u = 0 ↔ ¬ 0 < x % s := by rw [hu, zb]; split <;> omega
    have hvr : v = 0 ↔ ¬ 0 < y % s := by rw [hv, zb]; split <;> omega
    have ur := zb_01 (0 < x % s)
    have vr := zb_01 (0 < y % s)
    unfold zCd
    have A4 : ∀ (τs : zSt) (c : Nat) (C : Nat → Nat), c = (if 0 < x % s then if 0 < y % s then b else 0 else 0) → xrD B τ1 C τs → zW G M_X3_spreadDot (fun v w => v = none ∧ ∃ τ' : zSt, w = (zxS B, σ, τ') ∧ xrD B τ1 (zCa C (x / s + 1) (y / s + 1) (if 0 < x % s then if 0 < y % s then b else 0 else 0)) τ') 118 [some (.ref (B + 55)), some (vi x), some (vi y), some (vi s), some (vl b), none, some (vi (x / s)), some (vi (y / s)), some (vi u), some (vi v)] [vl c, vi (y / s + 1), vi (x / s + 1), .ref (B + 55)] (zxS B, σ, τs) := by
      intro τs c C hc hd
      have hcb : c < 1099511627776 := by rw [hc]; (repeat' split) <;> omega
      refine zw_cVr3 121 rfl dX3_spreadDot_118 kX3_spreadDot_42 (Nat.le_of_ble_eq_true rfl) (by first | assumption | exact zx_o0 | exact zx_o _ _ _ rfl) (c_nadd hd (by omega) (by omega) hcb) ?_
      rintro _ _ ⟨rfl, τ2, rfl, hd⟩
      rw [hc] at hd
      exact zw_vret (st := []) dX3_spreadDot_121 rfl ⟨rfl, _, rfl, hd⟩
    have A3 : ∀ (τs : zSt) (c : Nat) (C : Nat → Nat), c = (if 0 < y % s then b else 0) → xrD B τ1 C τs → zW G M_X3_spreadDot (fun v w => v = none ∧ ∃ τ' : zSt, w = (zxS B, σ, τ') ∧ xrD B τ1 (zCa (zCa C (x / s) (y / s + 1) (if 0 < y % s then b else 0)) (x / s + 1) (y / s + 1) (if 0 < x % s then if 0 < y % s then b else 0 else 0)) τ') 90 [some (.ref (B + 55)), some (vi x), some (vi y), some (vi s), some (vl b), none, some (vi (x / s)), some (vi (y / s)), some (vi u), some (vi v)] [vl c, vi (y / s + 1), vi (x / s), .ref (B + 55)] (zxS B, σ, τs) := by
      intro τs c C hc hd
      have hcb : c < 1099511627776 := by rw [hc]; (repeat' split) <;> omega
      refine zw_cVr3 93 rfl dX3_spreadDot_90 kX3_spreadDot_42 (Nat.le_of_ble_eq_true rfl) (by first | assumption | exact zx_o0 | exact zx_o _ _ _ rfl) (c_nadd hd (by omega) (by omega) hcb) ?_
      rintro _ _ ⟨rfl, τ2, rfl, hd⟩
      rw [hc] at hd
      refine zw_aload_n 94 rfl dX3_spreadDot_93 rfl ?_
      refine zw_iload 96 rfl dX3_spreadDot_94 rfl ?_
      refine zw_iconst 97 rfl dX3_spreadDot_96 ?_
      refine zw_iadd 98 rfl dX3_spreadDot_97 ?_
      refine zw_iload 100 rfl dX3_spreadDot_98 rfl ?_
      refine zw_iconst 101 rfl dX3_spreadDot_100 ?_
      refine zw_iadd 102 rfl dX3_spreadDot_101 ?_
      refine zw_iload 104 rfl dX3_spreadDot_102 rfl ?_
      refine zw_if_eq 117 107 rfl dX3_spreadDot_104 (by decide) (by omega) (fun h_104 => ?_) (fun h_104 => ?_)
      · refine zw_lconst 118 rfl dX3_spreadDot_117 ?_
        first | exact A4 _ 0 _ (by rw [if_neg (hur.mp h_104)]) hd | exact A4 _ 0 _ (by rw [if_pos (Decidable.byContradiction fun q => h_104 (hur.mpr q)), if_neg (hvr.mp h_109)]) hd | exact A4 _ b _ (by rw [if_pos (Decidable.byContradiction fun q => h_104 (hur.mpr q)), if_pos (Decidable.byContradiction fun q => h_109 (hvr.mpr q))]) hd
      · refine zw_iload 109 rfl dX3_spreadDot_107 rfl ?_
        refine zw_if_eq 117 112 rfl dX3_spreadDot_109 (by decide) (by omega) (fun h_109 => ?_) (fun h_109 => ?_)
        · refine zw_lconst 118 rfl dX3_spreadDot_117 ?_
          first | exact A4 _ 0 _ (by rw [if_neg (hur.mp h_104)]) hd | exact A4 _ 0 _ (by rw [if_pos (Decidable.byContradiction fun q => h_104 (hur.mpr q)), if_neg (hvr.mp h_109)]) hd | exact A4 _ b _ (by rw [if_pos (Decidable.byContradiction fun q => h_104 (hur.mpr q)), if_pos (Decidable.byContradiction fun q => h_109 (hvr.mpr q))]) hd
        · refine zw_lload 114 rfl dX3_spreadDot_112 rfl ?_
          refine zw_goto 118 dX3_spreadDot_114 (by decide) ?_
          first | exact A4 _ 0 _ (by rw [if_neg (hur.mp h_104)]) hd | exact A4 _ 0 _ (by rw [if_pos (Decidable.byContradiction fun q => h_104 (hur.mpr q)), if_neg (hvr.mp h_109)]) hd | exact A4 _ b _ (by rw [if_pos (Decidable.byContradiction fun q => h_104 (hur.mpr q)), if_pos (Decidable.byContradiction fun q => h_109 (hvr.mpr q))]) hd
    have A2 : ∀ (τs : zSt) (c : Nat) (C : Nat → Nat), c = (if 0 < x % s then b else 0) → xrD B τ1 C τs → zW G M_X3_spreadDot (fun v w => v = none ∧ ∃ τ' : zSt, w = (zxS B, σ, τ') ∧ xrD B τ1 (zCa (zCa (zCa C (x / s + 1) (y / s) (if 0 < x % s then b else 0)) (x / s) (y / s + 1) (if 0 < y % s then b else 0)) (x / s + 1) (y / s + 1) (if 0 < x % s then if 0 < y % s then b else 0 else 0)) τ') 69 [some (.ref (B + 55)), some (vi x), some (vi y), some (vi s), some (vl b), none, some (vi (x / s)), some (vi (y / s)), some (vi u), some (vi v)] [vl c, vi (y / s), vi (x / s + 1), .ref (B + 55)] (zxS B, σ, τs) := by
      intro τs c C hc hd
      have hcb : c < 1099511627776 := by rw [hc]; (repeat' split) <;> omega
      refine zw_cVr3 72 rfl dX3_spreadDot_69 kX3_spreadDot_42 (Nat.le_of_ble_eq_true rfl) (by first | assumption | exact zx_o0 | exact zx_o _ _ _ rfl) (c_nadd hd (by omega) (by omega) hcb) ?_
      rintro _ _ ⟨rfl, τ2, rfl, hd⟩
      rw [hc] at hd
      refine zw_aload_n 73 rfl dX3_spreadDot_72 rfl ?_
      refine zw_iload 75 rfl dX3_spreadDot_73 rfl ?_
      refine zw_iload 77 rfl dX3_spreadDot_75 rfl ?_
      refine zw_iconst 78 rfl dX3_spreadDot_77 ?_
      refine zw_iadd 79 rfl dX3_spreadDot_78 ?_
      refine zw_iload 81 rfl dX3_spreadDot_79 rfl ?_
      refine zw_if_eq 89 84 rfl dX3_spreadDot_81 (by decide) (by omega) (fun h_81 => ?_) (fun h_81 => ?_)
      · refine zw_lconst 90 rfl dX3_spreadDot_89 ?_
        first | exact A3 _ 0 _ (by rw [if_neg (hvr.mp h_81)]) hd | exact A3 _ b _ (by rw [if_pos (Decidable.byContradiction fun q => h_81 (hvr.mpr q))]) hd
      · refine zw_lload 86 rfl dX3_spreadDot_84 rfl ?_
        refine zw_goto 90 dX3_spreadDot_86 (by decide) ?_
        first | exact A3 _ 0 _ (by rw [if_neg (hvr.mp h_81)]) hd | exact A3 _ b _ (by rw [if_pos (Decidable.byContradiction fun q => h_81 (hvr.mpr q))]) hd
    refine zw_aload_n 42 rfl dX3_spreadDot_41 rfl ?_
    refine zw_iload 44 rfl dX3_spreadDot_42 rfl ?_
    refine zw_iload 46 rfl dX3_spreadDot_44 rfl ?_
    refine zw_lload 48 rfl dX3_spreadDot_46 rfl ?_
    refine zw_cVr3 51 rfl dX3_spreadDot_48 kX3_spreadDot_42 (Nat.le_of_ble_eq_true rfl) (by first | assumption | exact zx_o0 | exact zx_o _ _ _ rfl) (c_nadd h (by omega) (by omega) hb) ?_
    rintro _ _ ⟨rfl, τ2, rfl, hd⟩
    refine zw_aload_n 52 rfl dX3_spreadDot_51 rfl ?_
    refine zw_iload 54 rfl dX3_spreadDot_52 rfl ?_
    refine zw_iconst 55 rfl dX3_spreadDot_54 ?_
    refine zw_iadd 56 rfl dX3_spreadDot_55 ?_
    refine zw_iload 58 rfl dX3_spreadDot_56 rfl ?_
    refine zw_iload 60 rfl dX3_spreadDot_58 rfl ?_
    refine zw_if_eq 68 63 rfl dX3_spreadDot_60 (by decide) (by omega) (fun h_60 => ?_) (fun h_60 => ?_)
    · refine zw_lconst 69 rfl dX3_spreadDot_68 ?_
      first | exact A2 _ 0 _ (by rw [if_neg (hur.mp h_60)]) hd | exact A2 _ b _ (by rw [if_pos (Decidable.byContradiction fun q => h_60 (hur.mpr q))]) hd
    · refine zw_lload 65 rfl dX3_spreadDot_63 rfl ?_
      refine zw_goto 69 dX3_spreadDot_65 (by decide) ?_
      first | exact A2 _ 0 _ (by rw [if_neg (hur.mp h_60)]) hd | exact A2 _ b _ (by rw [if_pos (Decidable.byContradiction fun q => h_60 (hur.mpr q))]) hd
  refine zw_iload_n 1 rfl dX3_spreadDot_0 rfl ?_
  refine zw_if_gt 5 4 rfl dX3_spreadDot_1 (by decide) (by omega) (fun h_1 => ?_) (fun h_1 => ?_)
  · refine zw_iload_n 6 rfl dX3_spreadDot_5 rfl ?_
    refine zw_iload_n 7 rfl dX3_spreadDot_6 rfl ?_
    refine zw_idiv 8 rfl dX3_spreadDot_7 (by omega) (by omega) ?_
    refine zw_istore 10 rfl dX3_spreadDot_8 (Nat.le_of_ble_eq_true rfl) rfl ?_
    refine zw_iload_n 11 rfl dX3_spreadDot_10 rfl ?_
    refine zw_iload_n 12 rfl dX3_spreadDot_11 rfl ?_
    refine zw_idiv 13 rfl dX3_spreadDot_12 (by omega) (by omega) ?_
    refine zw_istore 15 rfl dX3_spreadDot_13 (Nat.le_of_ble_eq_true rfl) rfl ?_
    refine zw_iload_n 16 rfl dX3_spreadDot_15 rfl ?_
    refine zw_iload_n 17 rfl dX3_spreadDot_16 rfl ?_
    refine zw_irem 18 rfl dX3_spreadDot_17 (by omega) (by omega) ?_
    refine zw_if_le 25 21 rfl dX3_spreadDot_18 (by decide) (by omega) (fun h_18 => ?_) (fun h_18 => ?_)
    · refine zw_iconst 26 rfl dX3_spreadDot_25 ?_
      refine zw_istore 28 rfl dX3_spreadDot_26 (Nat.le_of_ble_eq_true rfl) rfl ?_
      refine zw_iload_n 29 rfl dX3_spreadDot_28 rfl ?_
      refine zw_iload_n 30 rfl dX3_spreadDot_29 rfl ?_
      refine zw_irem 31 rfl dX3_spreadDot_30 (by omega) (by omega) ?_
      refine zw_if_le 38 34 rfl dX3_spreadDot_31 (by decide) (by omega) (fun h_31 => ?_) (fun h_31 => ?_)
      · refine zw_iconst 39 rfl dX3_spreadDot_38 ?_
        refine zw_istore 41 rfl dX3_spreadDot_39 (Nat.le_of_ble_eq_true rfl) rfl ?_
        first | exact body _ _ (zb_f (by omega)) (zb_f (by omega)) | exact body _ _ (zb_t (by omega)) (zb_f (by omega)) | exact body _ _ (zb_f (by omega)) (zb_t (by omega)) | exact body _ _ (zb_t (by omega)) (zb_t (by omega))
      · refine zw_iconst 35 rfl dX3_spreadDot_34 ?_
        refine zw_goto 39 dX3_spreadDot_35 (by decide) ?_
        refine zw_istore 41 rfl dX3_spreadDot_39 (Nat.le_of_ble_eq_true rfl) rfl ?_
        first | exact body _ _ (zb_f (by omega)) (zb_f (by omega)) | exact body _ _ (zb_t (by omega)) (zb_f (by omega)) | exact body _ _ (zb_f (by omega)) (zb_t (by omega)) | exact body _ _ (zb_t (by omega)) (zb_t (by omega))
    · refine zw_iconst 22 rfl dX3_spreadDot_21 ?_
      refine zw_goto 26 dX3_spreadDot_22 (by decide) ?_
      refine zw_istore 28 rfl dX3_spreadDot_26 (Nat.le_of_ble_eq_true rfl) rfl ?_
      refine zw_iload_n 29 rfl dX3_spreadDot_28 rfl ?_
      refine zw_iload_n 30 rfl dX3_spreadDot_29 rfl ?_
      refine zw_irem 31 rfl dX3_spreadDot_30 (by omega) (by omega) ?_
      refine zw_if_le 38 34 rfl dX3_spreadDot_31 (by decide) (by omega) (fun h_31 => ?_) (fun h_31 => ?_)
      · refine zw_iconst 39 rfl dX3_spreadDot_38 ?_
        refine zw_istore 41 rfl dX3_spreadDot_39 (Nat.le_of_ble_eq_true rfl) rfl ?_
        first | exact body _ _ (zb_f (by omega)) (zb_f (by omega)) | exact body _ _ (zb_t (by omega)) (zb_f (by omega)) | exact body _ _ (zb_f (by omega)) (zb_t (by omega)) | exact body _ _ (zb_t (by omega)) (zb_t (by omega))
      · refine zw_iconst 35 rfl dX3_spreadDot_34 ?_
        refine zw_goto 39 dX3_spreadDot_35 (by decide) ?_
        refine zw_istore 41 rfl dX3_spreadDot_39 (Nat.le_of_ble_eq_true rfl) rfl ?_
        first | exact body _ _ (zb_f (by omega)) (zb_f (by omega)) | exact body _ _ (zb_t (by omega)) (zb_f (by omega)) | exact body _ _ (zb_f (by omega)) (zb_t (by omega)) | exact body _ _ (zb_t (by omega)) (zb_t (by omega))
  · omega
def zCs (p : zPc) (s r : Int) : Nat → Nat := zwin 0 p.1 0 p.2.1 (fun x y C => zCd C x y s (zSN (p.2.2 x y) r)) (fun _ => 0)
theorem c_nspread {G : zG} {B a : Nat} {σ τ : zSt} {p : zPc} {s r : Int} (hp : zPic (zxS B) a (a + 1)) (h : xrPic σ a p) (h0 : 0 < p.1) (hs : 1 ≤ s ∧ s ≤ 8) (hr : 8 ≤ r ∧ r ≤ 128) : zC G M_X3_spread [.ref (B + 55), .ref a, vi s, vi r] (zxS B, σ, τ) (fun v w => v = none ∧ ∃ τ' : zSt, w = (zxS B, σ, τ') ∧ xrD B τ (zCs p s r) τ') := by
  have hwh := h.wh h0
  have hdr := (h.2.2 h0).2.2
  refine zC_of 2 rfl (Nat.le_of_ble_eq_true rfl) ?_
  generalize hF : (fun (x y : Int) (C : Nat → Nat) => zCd C x y s (zSN (p.2.2 x y) r)) = F
  have hF' : ∀ x y C, F x y C = zCd C x y s (zSN (p.2.2 x y) r) := fun x y C => by rw [← hF]
  have hE : zCs p s r = zfold (fun (j : Nat) => zfold (fun (i : Nat) => F (0 + i) (0 + j)) p.1.toNat) p.2.1.toNat (fun _ => 0) := by subst hF; unfold zCs zwin; rw [Int.sub_zero, Int.sub_zero]
  rw [hE]
  generalize hO : (fun (j : Nat) => zfold (fun (i : Nat) => F (0 + i) (0 + j)) p.1.toNat) = O
  have hO' : ∀ j c, O j c = zfold (fun (i : Nat) => F (0 + i) (0 + j)) p.1.toNat c := fun j c => by rw [← hO]
  have outer : ∀ (fu j : Nat) (C : Nat → Nat) (τs : zSt), (j : Int) ≤ p.2.1 → p.2.1 - j < fu → C = zfold O j (fun _ => 0) → xrD B τ C τs → zW G M_X3_spread (fun v w => v = none ∧ ∃ τ' : zSt, w = (zxS B, σ, τ') ∧ xrD B τ (zfold O p.2.1.toNat (fun _ => 0)) τ') 11 [some (.ref (B + 55)), some (.ref a), some (vi s), some (vi r), some (vi j), none] [] (zxS B, σ, τs) := by
    intro fu
    induction fu with
    | zero => intro j C τs h1 h2; omega
    | succ fu ih =>
      intro j C τs h1 h2 hC hd
      generalize hI : (fun (i : Nat) => F (0 + i) (0 + j)) = I
      have hI' : ∀ i c, I i c = F i j c := fun i c => by rw [← hI]; show F (0 + (i : Int)) (0 + (j : Int)) c = _; rw [Int.zero_add, Int.zero_add]
      have inner : ∀ (fm i : Nat) (C' : Nat → Nat) (τs : zSt), (j : Int) < p.2.1 → (i : Int) ≤ p.1 → p.1 - i < fm → C' = zfold I i C → xrD B τ C' τs → zW G M_X3_spread (fun v w => v = none ∧ ∃ τ' : zSt, w = (zxS B, σ, τ') ∧ xrD B τ (zfold O p.2.1.toNat (fun _ => 0)) τ') 23 [some (.ref (B + 55)), some (.ref a), some (vi s), some (vi r), some (vi j), some (vi i)] [] (zxS B, σ, τs) := by
        intro fm
        induction fm with
        | zero => intro i C' τs h3 h4 h5; omega
        | succ fm ihm =>
          intro i C' τs h3 h4 h5 hC' hd
          refine zw_iload 25 rfl dX3_spread_23 rfl ?_
          refine zw_aload_n 26 rfl dX3_spread_25 rfl ?_
          refine zw_geti 29 rfl dX3_spread_26 fl_X3_27 hp.1 ?_
          rw [hwh.1.1]
          refine zw_icmp_ge 59 32 rfl dX3_spread_29 (by decide) (by omega) (by omega) (fun h_29 => ?_) (fun h_29 => ?_)
          · refine zw_iinc 62 rfl dX3_spread_59 (Nat.le_of_ble_eq_true rfl) rfl rfl ?_
            refine zw_goto 11 dX3_spread_62 (by decide) ?_
            refine zw_drop 5 ?_
            exact ih (j + 1) C' _ (by omega) (by omega) (by simp only [zfold]; rw [← hC, hO', hI, hC', show p.1.toNat = i by omega]) hd
          · have hdi := (hdr i j (by omega) (by omega)).2
            refine zw_aload_n 33 rfl dX3_spread_32 rfl ?_
            refine zw_iload 35 rfl dX3_spread_33 rfl ?_
            refine zw_iload 37 rfl dX3_spread_35 rfl ?_
            refine zw_iload_n 38 rfl dX3_spread_37 rfl ?_
            refine zw_aload_n 39 rfl dX3_spread_38 rfl ?_
            refine zw_iload 41 rfl dX3_spread_39 rfl ?_
            refine zw_iload 43 rfl dX3_spread_41 rfl ?_
            refine zw_cVi2 46 rfl dX3_spread_43 kX3_spread_30 (Nat.le_of_ble_eq_true rfl) hp.1 (c_shadeAt hp h.1 (by omega) (by omega)) ?_
            rw [h.dot h0 (by omega) (by omega)]
            refine zw_iload_n 47 rfl dX3_spread_46 rfl ?_
            refine zw_cSi2 50 rfl dX3_spread_47 kX3_spread_34 (Nat.le_of_ble_eq_true rfl) (c_shadeNodes hdi hr) ?_
            refine zw_cVr4 53 rfl dX3_spread_50 kX3_spread_38 (Nat.le_of_ble_eq_true rfl) (by first | assumption | exact zx_o0 | exact zx_o _ _ _ rfl) (c_spreadDot hd (by omega) (by omega) hs (zSN_r hdi hr.1)) ?_
            rintro _ _ ⟨rfl, τ2, rfl, hd⟩
            refine zw_iinc 56 rfl dX3_spread_53 (Nat.le_of_ble_eq_true rfl) rfl rfl ?_
            refine zw_goto 23 dX3_spread_56 (by decide) ?_
            exact ihm (i + 1) (I i C') _ h3 (by omega) (by omega) (by rw [hC']; rfl) (by rw [hI', hF']; exact hd)
      refine zw_iload 13 rfl dX3_spread_11 rfl ?_
      refine zw_aload_n 14 rfl dX3_spread_13 rfl ?_
      refine zw_geti 17 rfl dX3_spread_14 fl_X3_21 hp.1 ?_
      rw [hwh.1.2]
      refine zw_icmp_ge 65 20 rfl dX3_spread_17 (by decide) (by omega) (by omega) (fun h_17 => ?_) (fun h_17 => ?_)
      · exact zw_vret (st := []) dX3_spread_65 rfl ⟨rfl, _, rfl, by rw [show p.2.1.toNat = j by omega, ← hC]; exact hd⟩
      · refine zw_iconst 21 rfl dX3_spread_20 ?_
        refine zw_istore 23 rfl dX3_spread_21 (Nat.le_of_ble_eq_true rfl) rfl ?_
        exact inner (p.1.toNat + 1) 0 C _ (by omega) (by omega) (by omega) rfl hd
  refine zw_aload_n 1 rfl dX3_spread_0 rfl ?_
  refine zw_getr 4 rfl dX3_spread_1 fl_X3_11 (by first | assumption | exact zx_o0 | exact zx_o _ _ _ rfl) (by first | assumption | exact zx_f0 _ _ rfl | exact zx_f _ _ _ rfl) ?_
  refine zw_lconst 5 rfl dX3_spread_4 ?_
  refine zw_cSv2 8 rfl dX3_spread_5 kX3_spread_15 (Nat.le_of_ble_eq_true rfl) (c_fillL (zx_o 56 13 396 rfl) (by omega)) ?_
  refine zw_iconst 9 rfl dX3_spread_8 ?_
  refine zw_istore 11 rfl dX3_spread_9 (Nat.le_of_ble_eq_true rfl) rfl ?_
  exact outer (p.2.1.toNat + 1) 0 (fun _ => 0) _ (by omega) (by omega) rfl ⟨fun c q => by rw [zr_ne _ _ q], fun c q => by rw [zr_eq, if_pos q]; exact ⟨rfl, (by decide : 0 < 1099511627776)⟩⟩
