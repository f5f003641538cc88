/-! ===== counting nodes, the m-th of them ===== -/
def zCc (C : Nat → Nat) : Int := zS (fun c => (zpc 40 (C c) : Int)) 396
theorem c_ncount {G : zG} {B : Nat} {σ τ τ1 : zSt} {C : Nat → Nat} (h : xrD B τ1 C τ) : zC G M_X3_count [.ref (B + 55)] (zxS B, σ, τ) (zR (some (vi (zCc C))) (zxS B, σ, τ)) := by
  refine zC_of 2 rfl (Nat.le_of_ble_eq_true rfl) ?_
  unfold zCc
  have loop : ∀ (fu c : Nat), c ≤ 396 → 396 - c < fu → zW G M_X3_count (zR (some (vi (zS (fun c => (zpc 40 (C c) : Int)) 396))) (zxS B, σ, τ)) 4 [some (.ref (B + 55)), some (vi (zS (fun c => (zpc 40 (C c) : Int)) c)), some (vi c)] [] (zxS B, σ, τ) := by
    intro fu
    induction fu with
    | zero => intro c h1 h2; omega
    | succ fu ih =>
      intro c h1 h2
      have hc := h.2 c
      refine zw_iload_n 5 rfl dX3_count_4 rfl ?_
      refine zw_sipush 8 rfl dX3_count_5 rfl ?_
      refine zw_icmp_ge 29 11 rfl dX3_count_8 (by decide) (by omega) (by omega) (fun h_8 => ?_) (fun h_8 => ?_)
      · refine zw_iload_n 30 rfl dX3_count_29 rfl ?_
        exact zw_iretR dX3_count_30 rfl (by rw [show c = 396 by omega]) rfl
      · refine zw_iload_n 12 rfl dX3_count_11 rfl ?_
        refine zw_aload_n 13 rfl dX3_count_12 rfl ?_
        refine zw_getr 16 rfl dX3_count_13 fl_X3_11 (by first | assumption | exact zx_o0 | exact zx_o _ _ _ rfl) (by first | assumption | exact zx_f0 _ _ rfl | exact zx_f _ _ _ rfl) ?_
        refine zw_iload_n 17 rfl dX3_count_16 rfl ?_
        refine zw_lald 18 rfl dX3_count_17 (by first | assumption | exact zx_o0 | exact zx_o _ _ _ rfl) (by omega) (by omega) ?_
        rw [Int.toNat_natCast, (hc (by omega)).1]
        refine zw_cSi1 21 rfl dX3_count_18 kX3_count_56 (Nat.le_of_ble_eq_true rfl) (c_bitCount (hc (by omega)).2) ?_
        refine zw_iadd 22 rfl dX3_count_21 ?_
        refine zw_istore_n 23 rfl dX3_count_22 (Nat.le_of_ble_eq_true rfl) rfl ?_
        refine zw_iinc 26 rfl dX3_count_23 (Nat.le_of_ble_eq_true rfl) rfl rfl ?_
        refine zw_goto 4 dX3_count_26 (by decide) ?_
        exact ih (c + 1) (by omega) (by omega)
  refine zw_iconst 1 rfl dX3_count_0 ?_
  refine zw_istore_n 2 rfl dX3_count_1 (Nat.le_of_ble_eq_true rfl) rfl ?_
  refine zw_iconst 3 rfl dX3_count_2 ?_
  refine zw_istore_n 4 rfl dX3_count_3 (Nat.le_of_ble_eq_true rfl) rfl ?_
  exact loop 397 0 (by omega) (by omega)
def zbr (x : Nat) : Nat → Nat → Int → Int
  | 0, _, _ => 0
  | n + 1, k, l => if x.testBit k then (if l = 0 then k else zbr x n (k + 1) (l - 1)) else zbr x n (k + 1) l
theorem c_bitOfRank {G : zG} {S : zSh} {σ τ : zSt} {x : Nat} {l : Int} (hx : x < 1099511627776) (hl : 0 ≤ l ∧ l ≤ 100) : zC G M_X3_bitOfRank [vl x, vi l] (S, σ, τ) (zR (some (vi (zbr x 39 0 l))) (S, σ, τ)) := by
  refine zC_of 2 rfl (Nat.le_of_ble_eq_true rfl) ?_
  have loop : ∀ (n k : Nat) (l' : Int), n + k = 39 → 0 ≤ l' ∧ l' ≤ 100 → zW G M_X3_bitOfRank (zR (some (vi (zbr x n k l'))) (S, σ, τ)) 5 [some (vl x), none, some (vi l), some (vi l'), some (vi k)] [] (S, σ, τ) := by
    intro n
    induction n with
    | zero =>
      intro k l' hk hl
      refine zw_iload 7 rfl dX3_bitOfRank_5 rfl ?_
      refine zw_bipush 9 rfl dX3_bitOfRank_7 rfl ?_
      refine zw_icmp_ge 39 12 rfl dX3_bitOfRank_9 (by decide) (by omega) (by omega) (fun h_9 => ?_) (fun h_9 => ?_)
      · refine zw_iconst 40 rfl dX3_bitOfRank_39 ?_
        exact zw_iretR dX3_bitOfRank_40 rfl rfl rfl
      · omega
    | succ n ih =>
      intro k l' hk hl
      have ht := Nat.testBit_eq_decide_div_mod_eq (x := x) (i := k)
      have e1 : ((x / 2 ^ k) &&& 1) = x / 2 ^ k % 2 := Nat.and_one_is_mod _
      have e2 := Nat.mod_lt (x / 2 ^ k) (show 2 > 0 by omega)
      rw [zbr]
      have hcase : (x.testBit k = true ∧ x / 2 ^ k % 2 = 1) ∨ (x.testBit k = false ∧ x / 2 ^ k % 2 = 0) := by
        rw [ht]
        by_cases q : x / 2 ^ k % 2 = 1
        · exact Or.inl ⟨by simp [q], q⟩
        · exact Or.inr ⟨by simp [q], by omega⟩
      rcases hcase with ⟨q, q2⟩ | ⟨q, q2⟩
      · rw [q, if_pos rfl]
        have K : zW G M_X3_bitOfRank (zR (some (vi (if l' = 0 then (k : Int) else zbr x n (k + 1) (l' - 1)))) (S, σ, τ)) 18 [some (vl x), none, some (vi l), some (vi l'), some (vi k)] [vl ((x / 2 ^ k &&& 1 : Nat) : Int)] (S, σ, τ) := by
          rw [e1, q2]
          refine zw_lconst 19 rfl dX3_bitOfRank_18 ?_
          refine zw_lcmp 20 rfl dX3_bitOfRank_19 (by omega) (by omega) ?_
          refine zw_if_eq 33 23 rfl dX3_bitOfRank_20 (by decide) (by (repeat' split) <;> omega) (fun h_20 => ?_) (fun h_20 => ?_)
          · first | (exfalso; revert h_20; decide) | exact zw_iinc 36 rfl dX3_bitOfRank_33 (Nat.le_of_ble_eq_true rfl) rfl rfl (zw_goto 5 dX3_bitOfRank_36 (by decide) (by rw [if_neg h_24]; exact ih (k + 1) (l' - 1) (by omega) (by omega)))
          · refine zw_iload_n 24 rfl dX3_bitOfRank_23 rfl ?_
            refine zw_if_ne 30 27 rfl dX3_bitOfRank_24 (by decide) (by omega) (fun h_24 => ?_) (fun h_24 => ?_)
            · refine zw_iinc 33 rfl dX3_bitOfRank_30 (Nat.le_of_ble_eq_true rfl) rfl rfl ?_
              first | (exfalso; revert h_20; decide) | exact zw_iinc 36 rfl dX3_bitOfRank_33 (Nat.le_of_ble_eq_true rfl) rfl rfl (zw_goto 5 dX3_bitOfRank_36 (by decide) (by rw [if_neg h_24]; exact ih (k + 1) (l' - 1) (by omega) (by omega)))
            · refine zw_iload 29 rfl dX3_bitOfRank_27 rfl ?_
              exact zw_iretR dX3_bitOfRank_29 rfl (by rw [if_pos h_24]) rfl
        refine zw_iload 7 rfl dX3_bitOfRank_5 rfl ?_
        refine zw_bipush 9 rfl dX3_bitOfRank_7 rfl ?_
        refine zw_icmp_ge 39 12 rfl dX3_bitOfRank_9 (by decide) (by omega) (by omega) (fun h_9 => ?_) (fun h_9 => ?_)
        · omega
        · refine zw_lload_n 13 rfl dX3_bitOfRank_12 rfl ?_
          refine zw_iload 15 rfl dX3_bitOfRank_13 rfl ?_
          refine zw_lushr 16 rfl dX3_bitOfRank_15 ?_
          rw [zL_ushr (by omega) (by omega)]
          refine zw_lconst 17 rfl dX3_bitOfRank_16 ?_
          refine zw_land 18 rfl dX3_bitOfRank_17 ?_
          rw [zL_and]
          exact K
      · rw [q, if_neg (by simp)]
        have K : zW G M_X3_bitOfRank (zR (some (vi (zbr x n (k + 1) l'))) (S, σ, τ)) 18 [some (vl x), none, some (vi l), some (vi l'), some (vi k)] [vl ((x / 2 ^ k &&& 1 : Nat) : Int)] (S, σ, τ) := by
          rw [e1, q2]
          refine zw_lconst 19 rfl dX3_bitOfRank_18 ?_
          refine zw_lcmp 20 rfl dX3_bitOfRank_19 (by omega) (by omega) ?_
          refine zw_if_eq 33 23 rfl dX3_bitOfRank_20 (by decide) (by (repeat' split) <;> omega) (fun h_20 => ?_) (fun h_20 => ?_)
          · refine zw_iinc 36 rfl dX3_bitOfRank_33 (Nat.le_of_ble_eq_true rfl) rfl rfl ?_
            refine zw_goto 5 dX3_bitOfRank_36 (by decide) ?_
            exact ih (k + 1) l' (by omega) (by omega)
          · exfalso
            exact h_20 rfl
        refine zw_iload 7 rfl dX3_bitOfRank_5 rfl ?_
        refine zw_bipush 9 rfl dX3_bitOfRank_7 rfl ?_
        refine zw_icmp_ge 39 12 rfl dX3_bitOfRank_9 (by decide) (by omega) (by omega) (fun h_9 => ?_) (fun h_9 => ?_)
        · omega
        · refine zw_lload_n 13 rfl dX3_bitOfRank_12 rfl ?_
          refine zw_iload 15 rfl dX3_bitOfRank_13 rfl ?_
          refine zw_lushr 16 rfl dX3_bitOfRank_15 ?_
          rw [zL_ushr (by omega) (by omega)]
          refine zw_lconst 17 rfl dX3_bitOfRank_16 ?_
          refine zw_land 18 rfl dX3_bitOfRank_17 ?_
          rw [zL_and]
          exact K
  refine zw_iload_n 1 rfl dX3_bitOfRank_0 rfl ?_
  refine zw_istore_n 2 rfl dX3_bitOfRank_1 (Nat.le_of_ble_eq_true rfl) rfl ?_
  refine zw_iconst 3 rfl dX3_bitOfRank_2 ?_
  refine zw_istore 5 rfl dX3_bitOfRank_3 (Nat.le_of_ble_eq_true rfl) rfl ?_
  exact loop 39 0 l (by omega) hl
def zNth (C : Nat → Nat) (what : Int) : Nat → Nat → Int → Int
  | 0, _, _ => -1000
  | n + 1, c, m => if m < zpc 40 (C c) then (if what = 0 then (c : Int) / 18 else if what = 1 then (c : Int) % 18 else zbr (C c) 39 0 m) - 3 else zNth C what n (c + 1) (m - zpc 40 (C c))
theorem c_placeOf {G : zG} {B : Nat} {σ τ τ1 : zSt} {C : Nat → Nat} {m what : Int} (h : xrD B τ1 C τ) (hm : 0 ≤ m ∧ m ≤ 2147483647) (hw : -2147483648 ≤ what ∧ what ≤ 2147483647) : zC G M_X3_placeOf [.ref (B + 55), vi m, vi what] (zxS B, σ, τ) (zR (some (vi (zNth C what 396 0 m))) (zxS B, σ, τ)) := by
  refine zC_of 3 rfl (Nat.le_of_ble_eq_true rfl) ?_
  have loop : ∀ (n c : Nat) (l : Int), n + c = 396 → 0 ≤ l ∧ l ≤ 2147483647 → zNth C what n c l = zNth C what 396 0 m → zW G M_X3_placeOf (zR (some (vi (zNth C what 396 0 m))) (zxS B, σ, τ)) 5 [some (.ref (B + 55)), some (vi m), some (vi what), some (vi l), some (vi c), none] [] (zxS B, σ, τ) := by
    intro n
    induction n with
    | zero =>
      intro c l hc hl he
      refine zw_iload 7 rfl dX3_placeOf_5 rfl ?_
      refine zw_sipush 10 rfl dX3_placeOf_7 rfl ?_
      refine zw_icmp_ge 81 13 rfl dX3_placeOf_10 (by decide) (by omega) (by omega) (fun h_10 => ?_) (fun h_10 => ?_)
      · refine zw_sipush 84 rfl dX3_placeOf_81 rfl ?_
        exact zw_iretR dX3_placeOf_84 rfl he rfl
      · omega
    | succ n ih =>
      intro c l hc hl he
      have hcc := h.2 c (by omega)
      have hle := zpc_le 40 (C c)
      rw [zNth] at he
      refine zw_iload 7 rfl dX3_placeOf_5 rfl ?_
      refine zw_sipush 10 rfl dX3_placeOf_7 rfl ?_
      refine zw_icmp_ge 81 13 rfl dX3_placeOf_10 (by decide) (by omega) (by omega) (fun h_10 => ?_) (fun h_10 => ?_)
      · omega
      · refine zw_aload_n 14 rfl dX3_placeOf_13 rfl ?_
        refine zw_getr 17 rfl dX3_placeOf_14 fl_X3_11 (by first | assumption | exact zx_o0 | exact zx_o _ _ _ rfl) (by first | assumption | exact zx_f0 _ _ rfl | exact zx_f _ _ _ rfl) ?_
        refine zw_iload 19 rfl dX3_placeOf_17 rfl ?_
        refine zw_lald 20 rfl dX3_placeOf_19 (by first | assumption | exact zx_o0 | exact zx_o _ _ _ rfl) (by omega) (by omega) ?_
        rw [Int.toNat_natCast, hcc.1]
        refine zw_cSi1 23 rfl dX3_placeOf_20 kX3_placeOf_56 (Nat.le_of_ble_eq_true rfl) (c_bitCount hcc.2) ?_
        refine zw_istore 25 rfl dX3_placeOf_23 (Nat.le_of_ble_eq_true rfl) rfl ?_
        refine zw_iload_n 26 rfl dX3_placeOf_25 rfl ?_
        refine zw_iload 28 rfl dX3_placeOf_26 rfl ?_
        refine zw_icmp_ge 70 31 rfl dX3_placeOf_28 (by decide) (by omega) (by omega) (fun h_28 => ?_) (fun h_28 => ?_)
        · refine zw_iload_n 71 rfl dX3_placeOf_70 rfl ?_
          refine zw_iload 73 rfl dX3_placeOf_71 rfl ?_
          refine zw_isub 74 rfl dX3_placeOf_73 ?_
          refine zw_istore_n 75 rfl dX3_placeOf_74 (Nat.le_of_ble_eq_true rfl) rfl ?_
          refine zw_iinc 78 rfl dX3_placeOf_75 (Nat.le_of_ble_eq_true rfl) rfl rfl ?_
          refine zw_goto 5 dX3_placeOf_78 (by decide) ?_
          refine zw_drop 5 ?_
          rw [if_neg (by omega)] at he
          exact ih (c + 1) _ (by omega) (by omega) he
        · refine zw_iload_n 32 rfl dX3_placeOf_31 rfl ?_
          refine zw_if_ne 43 35 rfl dX3_placeOf_32 (by decide) (by omega) (fun h_32 => ?_) (fun h_32 => ?_)
          · refine zw_iload_n 44 rfl dX3_placeOf_43 rfl ?_
            refine zw_iconst 45 rfl dX3_placeOf_44 ?_
            refine zw_icmp_ne 56 48 rfl dX3_placeOf_45 (by decide) (by omega) (by omega) (fun h_45 => ?_) (fun h_45 => ?_)
            · refine zw_aload_n 57 rfl dX3_placeOf_56 rfl ?_
              refine zw_getr 60 rfl dX3_placeOf_57 fl_X3_11 (by first | assumption | exact zx_o0 | exact zx_o _ _ _ rfl) (by first | assumption | exact zx_f0 _ _ rfl | exact zx_f _ _ _ rfl) ?_
              refine zw_iload 62 rfl dX3_placeOf_60 rfl ?_
              refine zw_lald 63 rfl dX3_placeOf_62 (by first | assumption | exact zx_o0 | exact zx_o _ _ _ rfl) (by omega) (by omega) ?_
              rw [Int.toNat_natCast, hcc.1]
              refine zw_iload_n 64 rfl dX3_placeOf_63 rfl ?_
              refine zw_cSi2 67 rfl dX3_placeOf_64 kX3_placeOf_62 (Nat.le_of_ble_eq_true rfl) (c_bitOfRank hcc.2 (by omega)) ?_
              refine zw_iconst 68 rfl dX3_placeOf_67 ?_
              refine zw_isub 69 rfl dX3_placeOf_68 ?_
              exact zw_iretR dX3_placeOf_69 rfl (by rw [← he, if_pos (by omega)]; first | rw [if_pos h_32] | rw [if_neg h_32, if_pos h_45] | rw [if_neg h_32, if_neg h_45]) rfl
            · refine zw_iload 50 rfl dX3_placeOf_48 rfl ?_
              refine zw_bipush 52 rfl dX3_placeOf_50 rfl ?_
              refine zw_irem 53 rfl dX3_placeOf_52 (by omega) (by omega) ?_
              refine zw_goto 67 dX3_placeOf_53 (by decide) ?_
              refine zw_iconst 68 rfl dX3_placeOf_67 ?_
              refine zw_isub 69 rfl dX3_placeOf_68 ?_
              exact zw_iretR dX3_placeOf_69 rfl (by rw [← he, if_pos (by omega)]; first | rw [if_pos h_32] | rw [if_neg h_32, if_pos h_45] | rw [if_neg h_32, if_neg h_45]) rfl
          · refine zw_iload 37 rfl dX3_placeOf_35 rfl ?_
            refine zw_bipush 39 rfl dX3_placeOf_37 rfl ?_
            refine zw_idiv 40 rfl dX3_placeOf_39 (by omega) (by omega) ?_
            refine zw_goto 67 dX3_placeOf_40 (by decide) ?_
            refine zw_iconst 68 rfl dX3_placeOf_67 ?_
            refine zw_isub 69 rfl dX3_placeOf_68 ?_
            exact zw_iretR dX3_placeOf_69 rfl (by rw [← he, if_pos (by omega)]; first | rw [if_pos h_32] | rw [if_neg h_32, if_pos h_45] | rw [if_neg h_32, if_neg h_45]) rfl
  refine zw_iload_n 1 rfl dX3_placeOf_0 rfl ?_
  refine zw_istore_n 2 rfl dX3_placeOf_1 (Nat.le_of_ble_eq_true rfl) rfl ?_
  refine zw_iconst 3 rfl dX3_placeOf_2 ?_
  refine zw_istore 5 rfl dX3_placeOf_3 (Nat.le_of_ble_eq_true rfl) rfl ?_
  exact loop 396 0 m (by omega) hm rfl
/-! ===== widening ===== -/
def zW3 (C : Nat → Nat) (L : Nat → Nat) (many m : Nat) : Nat := ((if m = 0 then 0 else C (L (m - 1))) ||| C (L m)) ||| (if m + 1 < many then C (L (m + 1)) else 0)
theorem c_widenLine {G : zG} {B fi st many : Nat} {σ τ τ1 : zSt} {C : Nat → Nat} {L : Nat → Nat} (h : xrD B τ1 C τ) (hL : ∀ n, L n = fi + n * st) (hb : ∀ n, n < many → L n < 396) (hi : ∀ n m, n < many → m < many → n ≠ m → L n ≠ L m) (hf : fi < 400 ∧ st < 400 ∧ many < 400) : zC G M_X3_widenLine [.ref (B + 55), vi fi, vi st, vi many] (zxS B, σ, τ) (fun v w => v = none ∧ ∃ (C' : Nat → Nat) (τ' : zSt), w = (zxS B, σ, τ') ∧ xrD B τ1 C' τ' ∧ (∀ m, m < many → C' (L m) = zW3 C L many m) ∧ ∀ c, (∀ m, m < many → c ≠ L m) → C' c = C c) := by
  refine zC_of 8 rfl (Nat.le_of_ble_eq_true rfl) ?_
  have loop : ∀ (fu n bf : Nat) (C' : Nat → Nat) (τs : zSt), n ≤ many → many - n < fu → bf = (if n = 0 then 0 else C (L (n - 1))) → xrD B τ1 C' τs → (∀ m, m < n → C' (L m) = zW3 C L many m) → (∀ c, (∀ m, m < n → c ≠ L m) → C' c = C c) → zW G M_X3_widenLine (fun v w => v = none ∧ ∃ (C' : Nat → Nat) (τ' : zSt), w = (zxS B, σ, τ') ∧ xrD B τ1 C' τ' ∧ (∀ m, m < many → C' (L m) = zW3 C L many m) ∧ ∀ c, (∀ m, m < many → c ≠ L m) → C' c = C c) 6 [some (.ref (B + 55)), some (vi fi), some (vi st), some (vi many), some (vl bf), none, some (vi n), none, none, none, none, none] [] (zxS B, σ, τs) := by
    intro fu
    induction fu with
    | zero => intro n bf C' τs h1 h2; omega
    | succ fu ih =>
      intro n bf C' τs h1 h2 hbf hd g1 g2
      have body : n < many → zW G M_X3_widenLine (fun v w => v = none ∧ ∃ (C' : Nat → Nat) (τ' : zSt), w = (zxS B, σ, τ') ∧ xrD B τ1 C' τ' ∧ (∀ m, m < many → C' (L m) = zW3 C L many m) ∧ ∀ c, (∀ m, m < many → c ≠ L m) → C' c = C c) 20 [some (.ref (B + 55)), some (vi fi), some (vi st), some (vi many), some (vl bf), none, some (vi n), some (vi (L n)), none, none, none, none] [] (zxS B, σ, τs) := by
        intro hn
        have hLb := hb n hn
        have hc := hd.2 (L n) hLb
        have hC : C' (L n) = C (L n) := g2 _ (fun m hm => hi n m hn (by omega) (by omega))
        have hL1 : L (n + 1) = L n + st := by rw [hL, hL, Nat.succ_mul]; omega
        have hbfb : bf < 1099511627776 := by
          rw [hbf]; split
          · omega
          · exact (h.2 _ (hb (n - 1) (by omega))).2
        have L50 : ∀ bh : Nat, bh = (if n + 1 < many then C (L (n + 1)) else 0) → bh < 1099511627776 → zW G M_X3_widenLine (fun v w => v = none ∧ ∃ (C' : Nat → Nat) (τ' : zSt), w = (zxS B, σ, τ') ∧ xrD B τ1 C' τ' ∧ (∀ m, m < many → C' (L m) = zW3 C L many m) ∧ ∀ c, (∀ m, m < many → c ≠ L m) → C' c = C c) 50 [some (.ref (B + 55)), some (vi fi), some (vi st), some (vi many), some (vl bf), none, some (vi n), some (vi (L n)), some (vl (C (L n) : Nat)), none, none, none] [vl bh] (zxS B, σ, τs) := by
          intro bh hbh hbb
          have nx : zW G M_X3_widenLine (fun v w => v = none ∧ ∃ (C' : Nat → Nat) (τ' : zSt), w = (zxS B, σ, τ') ∧ xrD B τ1 C' τ' ∧ (∀ m, m < many → C' (L m) = zW3 C L many m) ∧ ∀ c, (∀ m, m < many → c ≠ L m) → C' c = C c) 67 [some (.ref (B + 55)), some (vi fi), some (vi st), some (vi many), some (vl bf), none, some (vi n), some (vi (L n)), some (vl (C (L n) : Nat)), none, some (vl bh), none] [] (zxS B, σ, zu τs (B + 56) (L n) ((bf ||| C (L n) ||| bh : Nat) : Int)) := by
            refine zw_lload 69 rfl dX3_widenLine_67 rfl ?_
            refine zw_lstore 71 rfl dX3_widenLine_69 (Nat.le_of_ble_eq_true rfl) rfl ?_
            refine zw_iinc 74 rfl dX3_widenLine_71 (Nat.le_of_ble_eq_true rfl) rfl rfl ?_
            refine zw_goto 6 dX3_widenLine_74 (by decide) ?_
            refine zw_drop 7 ?_
            refine zw_drop 8 ?_
            refine zw_drop 10 ?_
            exact ih (n + 1) (C (L n)) (fun c => if c = L n then bf ||| C (L n) ||| bh else C' c) _ (by omega) (by omega) (by rw [if_neg (by omega)]; rfl) ⟨fun c q => by rw [zu_row _ _ q]; exact hd.1 c q, fun c q => by
              dsimp only
              by_cases e : c = L n
              · rw [if_pos e, e, zu_eq]; exact ⟨rfl, Nat.or_lt_two_pow (n := 40) (Nat.or_lt_two_pow (n := 40) hbfb (by rw [← hC]; exact hc.2)) hbb⟩
              · rw [if_neg e, zu_k _ _ e]; exact hd.2 c q⟩ (fun m hm => by
              by_cases e : m = n
              · rw [e, if_pos rfl]; unfold zW3; rw [← hbf, ← hbh]
              · rw [if_neg (hi m n (by omega) hn e)]; exact g1 m (by omega)) (fun c q => by
              rw [if_neg (q n (by omega))]; exact g2 c (fun m hm => q m (by omega)))
          refine zw_lstore 52 rfl dX3_widenLine_50 (Nat.le_of_ble_eq_true rfl) rfl ?_
          refine zw_aload_n 53 rfl dX3_widenLine_52 rfl ?_
          refine zw_getr 56 rfl dX3_widenLine_53 fl_X3_11 (by first | assumption | exact zx_o0 | exact zx_o _ _ _ rfl) (by first | assumption | exact zx_f0 _ _ rfl | exact zx_f _ _ _ rfl) ?_
          refine zw_iload 58 rfl dX3_widenLine_56 rfl ?_
          refine zw_lload 60 rfl dX3_widenLine_58 rfl ?_
          refine zw_lload 62 rfl dX3_widenLine_60 rfl ?_
          refine zw_lor 63 rfl dX3_widenLine_62 ?_
          rw [zL_or]
          refine zw_lload 65 rfl dX3_widenLine_63 rfl ?_
          refine zw_lor 66 rfl dX3_widenLine_65 ?_
          rw [zL_or]
          refine zw_last 67 rfl dX3_widenLine_66 (by first | assumption | exact zx_o0 | exact zx_o _ _ _ rfl) (by omega) (by omega) ?_
          rw [Int.toNat_natCast]
          exact nx
        have hc1 : n + 1 < many → (τs (B + 56) (L (n + 1)) = (C (L (n + 1)) : Nat) ∧ L (n + 1) < 396) ∧ C (L (n + 1)) < 1099511627776 := fun q => by
          have e : C' (L (n + 1)) = C (L (n + 1)) := g2 _ (fun m hm => hi (n + 1) m q (by omega) (by omega))
          have t := hd.2 (L (n + 1)) (hb _ q)
          rw [e] at t
          exact ⟨⟨t.1, hb _ q⟩, t.2⟩
        refine zw_aload_n 21 rfl dX3_widenLine_20 rfl ?_
        refine zw_getr 24 rfl dX3_widenLine_21 fl_X3_11 (by first | assumption | exact zx_o0 | exact zx_o _ _ _ rfl) (by first | assumption | exact zx_f0 _ _ rfl | exact zx_f _ _ _ rfl) ?_
        refine zw_iload 26 rfl dX3_widenLine_24 rfl ?_
        refine zw_lald 27 rfl dX3_widenLine_26 (by first | assumption | exact zx_o0 | exact zx_o _ _ _ rfl) (by omega) (by omega) ?_
        rw [Int.toNat_natCast, hc.1, hC]
        refine zw_lstore 29 rfl dX3_widenLine_27 (Nat.le_of_ble_eq_true rfl) rfl ?_
        refine zw_iload 31 rfl dX3_widenLine_29 rfl ?_
        refine zw_iload_n 32 rfl dX3_widenLine_31 rfl ?_
        refine zw_iconst 33 rfl dX3_widenLine_32 ?_
        refine zw_isub 34 rfl dX3_widenLine_33 ?_
        refine zw_icmp_ge 49 37 rfl dX3_widenLine_34 (by decide) (by omega) (by omega) (fun h_34 => ?_) (fun h_34 => ?_)
        · refine zw_lconst 50 rfl dX3_widenLine_49 ?_
          first | exact L50 (C (L (n + 1))) (by rw [if_pos (by omega)]) hq.2 | exact L50 0 (by rw [if_neg (by omega)]) (by omega)
        · have hq := hc1 (by omega)
          refine zw_aload_n 38 rfl dX3_widenLine_37 rfl ?_
          refine zw_getr 41 rfl dX3_widenLine_38 fl_X3_11 (by first | assumption | exact zx_o0 | exact zx_o _ _ _ rfl) (by first | assumption | exact zx_f0 _ _ rfl | exact zx_f _ _ _ rfl) ?_
          refine zw_iload 43 rfl dX3_widenLine_41 rfl ?_
          refine zw_iload_n 44 rfl dX3_widenLine_43 rfl ?_
          refine zw_iadd 45 rfl dX3_widenLine_44 ?_
          refine zw_lald 46 rfl dX3_widenLine_45 (by first | assumption | exact zx_o0 | exact zx_o _ _ _ rfl) (by omega) (by omega) ?_
          rw [show ((L n : Int) + (st : Int)).toNat = L (n + 1) by omega, hq.1.1]
          refine zw_goto 50 dX3_widenLine_46 (by decide) ?_
          first | exact L50 (C (L (n + 1))) (by rw [if_pos (by omega)]) hq.2 | exact L50 0 (by rw [if_neg (by omega)]) (by omega)
      refine zw_iload 8 rfl dX3_widenLine_6 rfl ?_
      refine zw_iload_n 9 rfl dX3_widenLine_8 rfl ?_
      refine zw_icmp_ge 77 12 rfl dX3_widenLine_9 (by decide) (by omega) (by omega) (fun h_9 => ?_) (fun h_9 => ?_)
      · exact zw_vret (st := []) dX3_widenLine_77 rfl ⟨rfl, C', _, rfl, hd, fun m hm => g1 m (by omega), fun c q => g2 c (fun m hm => q m (by omega))⟩
      · refine zw_iload_n 13 rfl dX3_widenLine_12 rfl ?_
        refine zw_iload 15 rfl dX3_widenLine_13 rfl ?_
        refine zw_iload_n 16 rfl dX3_widenLine_15 rfl ?_
        refine zw_imul 17 rfl dX3_widenLine_16 ?_
        refine zw_iadd 18 rfl dX3_widenLine_17 ?_
        refine zw_istore 20 rfl dX3_widenLine_18 (Nat.le_of_ble_eq_true rfl) rfl ?_
        rw [show (fi : Int) + (n : Int) * (st : Int) = (L n : Nat) by rw [hL]; simp]
        exact body (by omega)
  refine zw_lconst 1 rfl dX3_widenLine_0 ?_
  refine zw_lstore 3 rfl dX3_widenLine_1 (Nat.le_of_ble_eq_true rfl) rfl ?_
  refine zw_iconst 4 rfl dX3_widenLine_3 ?_
  refine zw_istore 6 rfl dX3_widenLine_4 (Nat.le_of_ble_eq_true rfl) rfl ?_
  exact loop (many + 1) 0 0 C _ (by omega) (by omega) rfl h (fun m hm => by omega) (fun c q => rfl)
