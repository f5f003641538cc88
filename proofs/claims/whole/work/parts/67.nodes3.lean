def zCw (y : Int) (C : Nat → Nat) : Nat → Nat := fun c => if y = 0 then ((if c < 18 then 0 else C (c - 18)) ||| C c) ||| (if c + 18 < 396 then C (c + 18) else 0) else if y = 1 then ((if c % 18 = 0 then 0 else C (c - 1)) ||| C c) ||| (if c % 18 = 17 then 0 else C (c + 1)) else C c ||| (C c * 2 ||| C c / 2)
theorem zCw_b {y : Int} {C : Nat → Nat} (h : ∀ c, c < 396 → C c < 549755813888) {c : Nat} (hc : c < 396) : zCw y C c < 1099511627776 := by
  have hh : ∀ c, c < 396 → C c < 2 ^ 40 := fun c q => by have := h c q; omega
  unfold zCw
  have a0 := h c hc
  split
  · refine Nat.or_lt_two_pow (n := 40) (Nat.or_lt_two_pow (n := 40) ?_ (hh c hc)) ?_
    · split
      · exact Nat.two_pow_pos 40
      · exact hh _ (by omega)
    · split
      · exact hh _ (by omega)
      · exact Nat.two_pow_pos 40
  · split
    · refine Nat.or_lt_two_pow (n := 40) (Nat.or_lt_two_pow (n := 40) ?_ (hh c hc)) ?_
      · split
        · exact Nat.two_pow_pos 40
        · exact hh _ (by omega)
      · split
        · exact Nat.two_pow_pos 40
        · exact hh _ (by omega)
    · exact Nat.or_lt_two_pow (n := 40) (hh c hc) (Nat.or_lt_two_pow (n := 40) (by omega) (by omega))
theorem wl0 {y : Int} {C C' C2 : Nat → Nat} {d : Nat} (hy : y = 0) (h1 : d ≤ 18) (hC : ∀ c, c < 396 → C' c = if c % 18 < d then zCw y C c else C c) (g1 : ∀ m, m < 22 → C2 (d + m * 18) = zW3 C' (fun n => d + n * 18) 22 m) (g2 : ∀ c, (∀ m, m < 22 → c ≠ d + m * 18) → C2 c = C' c) (hd : d < 18) {c : Nat} (hc : c < 396) : C2 c = if c % 18 < d + 1 then zCw y C c else C c := by
  have eC : ∀ k, k < 396 → k % 18 = d → C' k = C k := fun k hk q => by rw [hC k hk, if_neg (by omega)]
  by_cases e : c % 18 = d
  · rw [if_pos (by omega)]
    have t := g1 (c / 18) (by omega)
    rw [show d + c / 18 * 18 = c by omega] at t
    rw [t]
    unfold zW3 zCw
    rw [if_pos hy]
    dsimp only
    rw [show d + c / 18 * 18 = c by omega, eC c hc e]
    congr 1
    · congr 1
      by_cases q : c / 18 = 0
      · rw [if_pos q, if_pos (by omega)]
      · rw [if_neg q, if_neg (by omega), show d + (c / 18 - 1) * 18 = c - 18 by omega, eC _ (by omega) (by omega)]
    · by_cases q : c / 18 + 1 < 22
      · rw [if_pos q, if_pos (by omega), show d + (c / 18 + 1) * 18 = c + 18 by omega, eC _ (by omega) (by omega)]
      · rw [if_neg q, if_neg (by omega)]
  · rw [g2 c (fun m hm => by omega), hC c hc]
    by_cases q : c % 18 < d
    · rw [if_pos q, if_pos (by omega)]
    · rw [if_neg q, if_neg (by omega)]
theorem wl1 {y : Int} {C C' C2 : Nat → Nat} {d : Nat} (hy : y = 1) (h1 : d ≤ 22) (hC : ∀ c, c < 396 → C' c = if c / 18 < d then zCw y C c else C c) (g1 : ∀ m, m < 18 → C2 (d * 18 + m * 1) = zW3 C' (fun n => d * 18 + n * 1) 18 m) (g2 : ∀ c, (∀ m, m < 18 → c ≠ d * 18 + m * 1) → C2 c = C' c) (hd : d < 22) {c : Nat} (hc : c < 396) : C2 c = if c / 18 < d + 1 then zCw y C c else C c := by
  have eC : ∀ k, k < 396 → k / 18 = d → C' k = C k := fun k hk q => by rw [hC k hk, if_neg (by omega)]
  by_cases e : c / 18 = d
  · rw [if_pos (by omega)]
    have t := g1 (c % 18) (by omega)
    rw [show d * 18 + c % 18 * 1 = c by omega] at t
    rw [t]
    unfold zW3 zCw
    rw [if_neg (show ¬ y = 0 by omega), if_pos hy]
    dsimp only
    rw [show d * 18 + c % 18 * 1 = c by omega, eC c hc e]
    congr 1
    · congr 1
      by_cases q : c % 18 = 0
      · rw [if_pos q, if_pos q]
      · rw [if_neg q, if_neg q, show d * 18 + (c % 18 - 1) * 1 = c - 1 by omega, eC _ (by omega) (by omega)]
    · by_cases q : c % 18 + 1 < 18
      · rw [if_pos q, if_neg (by omega), show d * 18 + (c % 18 + 1) * 1 = c + 1 by omega, eC _ (by omega) (by omega)]
      · rw [if_neg q, if_pos (by omega)]
  · rw [g2 c (fun m hm => by omega), hC c hc]
    by_cases q : c / 18 < d
    · rw [if_pos q, if_pos (by omega)]
    · rw [if_neg q, if_neg (by omega)]
theorem c_widen {G : zG} {B : Nat} {σ τ τ1 : zSt} {C : Nat → Nat} {y : Int} (h : xrD B τ1 C τ) (h39 : ∀ c, c < 396 → C c < 549755813888) (hy : 0 ≤ y ∧ y ≤ 2) : zC G M_X3_widen [.ref (B + 55), vi y] (zxS B, σ, τ) (fun v w => v = none ∧ ∃ τ' : zSt, w = (zxS B, σ, τ') ∧ xrD B τ1 (zCw y C) τ') := by
  refine zC_of 1 rfl (Nat.le_of_ble_eq_true rfl) ?_
  have fin : ∀ (C' : Nat → Nat) (τs : zSt) (u : Int), xrD B τ1 C' τs → (∀ c, c < 396 → C' c = zCw y C c) → zW G M_X3_widen (fun v w => v = none ∧ ∃ τ' : zSt, w = (zxS B, σ, τ') ∧ xrD B τ1 (zCw y C) τ') 104 [some (.ref (B + 55)), some (vi y), some (vi u)] [] (zxS B, σ, τs) := fun C' τs u hd he => zw_vret (st := []) dX3_widen_104 rfl ⟨rfl, _, rfl, hd.1, fun c q => by rw [← he c q]; exact hd.2 c q⟩
  have l0 : y = 0 → ∀ (fu d : Nat) (C' : Nat → Nat) (τs : zSt), d ≤ 18 → 18 - d < fu → xrD B τ1 C' τs → (∀ c, c < 396 → C' c = if c % 18 < d then zCw y C c else C c) → zW G M_X3_widen (fun v w => v = none ∧ ∃ τ' : zSt, w = (zxS B, σ, τ') ∧ xrD B τ1 (zCw y C) τ') 6 [some (.ref (B + 55)), some (vi y), some (vi d)] [] (zxS B, σ, τs) := by
    intro hy0 fu
    induction fu with
    | zero => intro d C' τs h1 h2; omega
    | succ fu ih =>
      intro d C' τs h1 h2 hd hC
      refine zw_iload_n 7 rfl dX3_widen_6 rfl ?_
      refine zw_bipush 9 rfl dX3_widen_7 rfl ?_
      refine zw_icmp_ge 27 12 rfl dX3_widen_9 (by decide) (by omega) (by omega) (fun h_9 => ?_) (fun h_9 => ?_)
      · refine zw_goto 104 dX3_widen_27 (by decide) ?_
        exact fin _ _ _ hd (fun c q => by rw [hC c q, if_pos (by omega)])
      · refine zw_aload_n 13 rfl dX3_widen_12 rfl ?_
        refine zw_iload_n 14 rfl dX3_widen_13 rfl ?_
        refine zw_bipush 16 rfl dX3_widen_14 rfl ?_
        refine zw_bipush 18 rfl dX3_widen_16 rfl ?_
        refine zw_cVr3 21 rfl dX3_widen_18 kX3_widen_52 (Nat.le_of_ble_eq_true rfl) (by first | assumption | exact zx_o0 | exact zx_o _ _ _ rfl) (c_widenLine (fi := d) (st := 18) (many := 22) (L := fun n => d + n * 18) hd (fun n => rfl) (fun n hn => by omega) (fun n m _ _ q => by omega) (by omega)) ?_
        rintro _ _ ⟨rfl, C2, τ2, rfl, hd2, g1, g2⟩
        refine zw_iinc 24 rfl dX3_widen_21 (Nat.le_of_ble_eq_true rfl) rfl rfl ?_
        refine zw_goto 6 dX3_widen_24 (by decide) ?_
        exact ih (d + 1) C2 _ (by omega) (by omega) hd2 (fun c q => by exact wl0 hy0 h1 hC g1 g2 (by omega) q)
  have l1 : y = 1 → ∀ (fu d : Nat) (C' : Nat → Nat) (τs : zSt), d ≤ 22 → 22 - d < fu → xrD B τ1 C' τs → (∀ c, c < 396 → C' c = if c / 18 < d then zCw y C c else C c) → zW G M_X3_widen (fun v w => v = none ∧ ∃ τ' : zSt, w = (zxS B, σ, τ') ∧ xrD B τ1 (zCw y C) τ') 37 [some (.ref (B + 55)), some (vi y), some (vi d)] [] (zxS B, σ, τs) := by
    intro hy0 fu
    induction fu with
    | zero => intro d C' τs h1 h2; omega
    | succ fu ih =>
      intro d C' τs h1 h2 hd hC
      refine zw_iload_n 38 rfl dX3_widen_37 rfl ?_
      refine zw_bipush 40 rfl dX3_widen_38 rfl ?_
      refine zw_icmp_ge 60 43 rfl dX3_widen_40 (by decide) (by omega) (by omega) (fun h_40 => ?_) (fun h_40 => ?_)
      · refine zw_goto 104 dX3_widen_60 (by decide) ?_
        exact fin _ _ _ hd (fun c q => by rw [hC c q, if_pos (by omega)])
      · refine zw_aload_n 44 rfl dX3_widen_43 rfl ?_
        refine zw_iload_n 45 rfl dX3_widen_44 rfl ?_
        refine zw_bipush 47 rfl dX3_widen_45 rfl ?_
        refine zw_imul 48 rfl dX3_widen_47 ?_
        rw [show (d : Int) * 18 = ((d * 18 : Nat) : Int) by omega]
        refine zw_iconst 49 rfl dX3_widen_48 ?_
        refine zw_bipush 51 rfl dX3_widen_49 rfl ?_
        refine zw_cVr3 54 rfl dX3_widen_51 kX3_widen_52 (Nat.le_of_ble_eq_true rfl) (by first | assumption | exact zx_o0 | exact zx_o _ _ _ rfl) (c_widenLine (fi := d * 18) (st := 1) (many := 18) (L := fun n => d * 18 + n * 1) hd (fun n => rfl) (fun n hn => by omega) (fun n m _ _ q => by omega) (by omega)) ?_
        rintro _ _ ⟨rfl, C2, τ2, rfl, hd2, g1, g2⟩
        refine zw_iinc 57 rfl dX3_widen_54 (Nat.le_of_ble_eq_true rfl) rfl rfl ?_
        refine zw_goto 37 dX3_widen_57 (by decide) ?_
        exact ih (d + 1) C2 _ (by omega) (by omega) hd2 (fun c q => by exact wl1 hy0 h1 hC g1 g2 (by omega) q)
  have l2 : y = 2 → ∀ (fu d : Nat) (τs : zSt), d ≤ 396 → 396 - d < fu → xrD B τ1 (fun c => if c < d then zCw y C c else C c) τs → zW G M_X3_widen (fun v w => v = none ∧ ∃ τ' : zSt, w = (zxS B, σ, τ') ∧ xrD B τ1 (zCw y C) τ') 65 [some (.ref (B + 55)), some (vi y), some (vi d)] [] (zxS B, σ, τs) := by
    intro hy0 fu
    induction fu with
    | zero => intro d τs h1 h2; omega
    | succ fu ih =>
      intro d τs h1 h2 hd
      have nx : d < 396 → zW G M_X3_widen (fun v w => v = none ∧ ∃ τ' : zSt, w = (zxS B, σ, τ') ∧ xrD B τ1 (zCw y C) τ') 98 [some (.ref (B + 55)), some (vi y), some (vi d)] [] (zxS B, σ, zu τs (B + 56) d ((C d ||| (C d * 2 ||| C d / 2) : Nat) : Int)) := by
        intro hd3
        refine zw_iinc 101 rfl dX3_widen_98 (Nat.le_of_ble_eq_true rfl) rfl rfl ?_
        refine zw_goto 65 dX3_widen_101 (by decide) ?_
        refine ih (d + 1) _ (by omega) (by omega) ⟨fun c q => by rw [zu_row _ _ q]; exact hd.1 c q, fun c q => ?_⟩
        by_cases e : c = d
        · rw [e, zu_eq]
          dsimp only
          rw [if_pos (by omega)]
          refine ⟨?_, zCw_b h39 hd3⟩
          unfold zCw; rw [if_neg (show ¬ y = 0 by omega), if_neg (show ¬ y = 1 by omega)]
        · rw [zu_k _ _ e]
          have t := hd.2 c q
          dsimp only at t ⊢
          by_cases e2 : c < d
          · rw [if_pos e2] at t; rw [if_pos (by omega)]; exact t
          · rw [if_neg e2] at t; rw [if_neg (by omega)]; exact t
      have hc : d < 396 → τs (B + 56) d = (C d : Int) ∧ C d < 1099511627776 := fun q => by have t := hd.2 d q; dsimp only at t; rw [if_neg (by omega)] at t; exact t
      refine zw_iload_n 66 rfl dX3_widen_65 rfl ?_
      refine zw_sipush 69 rfl dX3_widen_66 rfl ?_
      refine zw_icmp_ge 104 72 rfl dX3_widen_69 (by decide) (by omega) (by omega) (fun h_69 => ?_) (fun h_69 => ?_)
      · exact fin _ _ _ hd (fun c q => by rw [if_pos (by omega)])
      · have hcd := hc (by omega)
        refine zw_aload_n 73 rfl dX3_widen_72 rfl ?_
        refine zw_getr 76 rfl dX3_widen_73 fl_X3_11 (by first | assumption | exact zx_o0 | exact zx_o _ _ _ rfl) (by first | assumption | exact zx_f0 _ _ rfl | exact zx_f _ _ _ rfl) ?_
        refine zw_iload_n 77 rfl dX3_widen_76 rfl ?_
        refine zw_dup2_11 78 rfl dX3_widen_77 rfl rfl ?_
        refine zw_lald 79 rfl dX3_widen_78 (by first | assumption | exact zx_o0 | exact zx_o _ _ _ rfl) (by omega) (by omega) ?_
        refine zw_aload_n 80 rfl dX3_widen_79 rfl ?_
        refine zw_getr 83 rfl dX3_widen_80 fl_X3_11 (by first | assumption | exact zx_o0 | exact zx_o _ _ _ rfl) (by first | assumption | exact zx_f0 _ _ rfl | exact zx_f _ _ _ rfl) ?_
        refine zw_iload_n 84 rfl dX3_widen_83 rfl ?_
        refine zw_lald 85 rfl dX3_widen_84 (by first | assumption | exact zx_o0 | exact zx_o _ _ _ rfl) (by omega) (by omega) ?_
        rw [Int.toNat_natCast, hcd.1]
        refine zw_iconst 86 rfl dX3_widen_85 ?_
        refine zw_lshl 87 rfl dX3_widen_86 ?_
        rw [show (1 : Int) = ((1 : Nat) : Int) from rfl, zL_shln _ (by omega)]
        refine zw_aload_n 88 rfl dX3_widen_87 rfl ?_
        refine zw_getr 91 rfl dX3_widen_88 fl_X3_11 (by first | assumption | exact zx_o0 | exact zx_o _ _ _ rfl) (by first | assumption | exact zx_f0 _ _ rfl | exact zx_f _ _ _ rfl) ?_
        refine zw_iload_n 92 rfl dX3_widen_91 rfl ?_
        refine zw_lald 93 rfl dX3_widen_92 (by first | assumption | exact zx_o0 | exact zx_o _ _ _ rfl) (by omega) (by omega) ?_
        rw [Int.toNat_natCast, hcd.1, show (2 : Nat) ^ 1 = 2 from rfl]
        refine zw_iconst 94 rfl dX3_widen_93 ?_
        refine zw_lushr 95 rfl dX3_widen_94 ?_
        rw [show (1 : Int) = ((1 : Nat) : Int) from rfl, zL_ushr (by omega) (by omega), show (2 : Nat) ^ 1 = 2 from rfl]
        refine zw_lor 96 rfl dX3_widen_95 ?_
        rw [zL_or]
        refine zw_lor 97 rfl dX3_widen_96 ?_
        rw [zL_or]
        refine zw_last 98 rfl dX3_widen_97 (by first | assumption | exact zx_o0 | exact zx_o _ _ _ rfl) (by omega) (by omega) ?_
        rw [Int.toNat_natCast]
        exact nx (by omega)
  refine zw_iload_n 1 rfl dX3_widen_0 rfl ?_
  refine zw_if_ne 30 4 rfl dX3_widen_1 (by decide) (by omega) (fun h_1 => ?_) (fun h_1 => ?_)
  · refine zw_iload_n 31 rfl dX3_widen_30 rfl ?_
    refine zw_iconst 32 rfl dX3_widen_31 ?_
    refine zw_icmp_ne 63 35 rfl dX3_widen_32 (by decide) (by omega) (by omega) (fun h_32 => ?_) (fun h_32 => ?_)
    · refine zw_iconst 64 rfl dX3_widen_63 ?_
      refine zw_istore_n 65 rfl dX3_widen_64 (Nat.le_of_ble_eq_true rfl) rfl ?_
      exact l2 (by omega) 397 0 _ (by omega) (by omega) ⟨h.1, fun c q => by dsimp only; rw [if_neg (by omega)]; exact h.2 c q⟩
    · refine zw_iconst 36 rfl dX3_widen_35 ?_
      refine zw_istore_n 37 rfl dX3_widen_36 (Nat.le_of_ble_eq_true rfl) rfl ?_
      exact l1 h_32 23 0 C _ (by omega) (by omega) h (fun c q => by rw [if_neg (by omega)])
  · refine zw_iconst 5 rfl dX3_widen_4 ?_
    refine zw_istore_n 6 rfl dX3_widen_5 (Nat.le_of_ble_eq_true rfl) rfl ?_
    exact l0 h_1 19 0 C _ (by omega) (by omega) h (fun c q => by rw [if_neg (by omega)])
