/-! ===== the lattice ===== -/
theorem z_ech_r (j : Nat) : 0 ≤ z_ech j ∧ z_ech j ≤ 20 := by
  by_cases h : j < 28
  · have : ∀ k : Fin 28, 0 ≤ z_ech k.val ∧ z_ech k.val ≤ 20 := by decide
    exact this ⟨j, h⟩
  · unfold z_ech
    rw [List.getD_eq_getElem?_getD, List.getElem?_eq_none (by simp; omega)]
    simp
theorem zecho_r (t f : Int) : 0 ≤ zecho t f ∧ zecho t f ≤ 20 := by
  unfold zecho
  split
  · exact z_ech_r _
  · omega
theorem zecho_0 {t f : Int} (h : t < f ∨ f < -t) : zecho t f = 0 := by
  unfold zecho
  rw [if_neg (by omega)]
theorem c_echo {G : zG} {S : zSh} {σ τ : zSt} {t f : Int} (ht : -2147483648 ≤ t ∧ t ≤ 2147483647) (hf : -2147483648 ≤ f ∧ f ≤ 2147483647) : zC G M_X1_echo [vi t, vi f] (S, σ, τ) (zR (some (vi (zecho t f))) (S, σ, τ)) := by
  refine zC_of 0 rfl (Nat.le_of_ble_eq_true rfl) ?_
  refine zw_iload_n 1 rfl dX1_echo_0 rfl ?_
  refine zw_if_lt 35 4 rfl dX1_echo_1 (by decide) (by omega) (fun h_1 => ?_) (fun h_1 => ?_)
  · refine zw_iconst 36 rfl dX1_echo_35 ?_
    exact zw_iretR dX1_echo_36 rfl (by unfold zecho; first | (rw [if_neg (by omega)]; done) | (rw [if_pos (by omega)])) rfl
  · refine zw_iload_n 5 rfl dX1_echo_4 rfl ?_
    refine zw_iconst 6 rfl dX1_echo_5 ?_
    refine zw_icmp_gt 35 9 rfl dX1_echo_6 (by decide) (by omega) (by omega) (fun h_6 => ?_) (fun h_6 => ?_)
    · refine zw_iconst 36 rfl dX1_echo_35 ?_
      exact zw_iretR dX1_echo_36 rfl (by unfold zecho; first | (rw [if_neg (by omega)]; done) | (rw [if_pos (by omega)])) rfl
    · refine zw_iload_n 10 rfl dX1_echo_9 rfl ?_
      refine zw_iload_n 11 rfl dX1_echo_10 rfl ?_
      refine zw_ineg 12 rfl dX1_echo_11 ?_
      refine zw_icmp_lt 35 15 rfl dX1_echo_12 (by decide) (by omega) (by omega) (fun h_12 => ?_) (fun h_12 => ?_)
      · refine zw_iconst 36 rfl dX1_echo_35 ?_
        exact zw_iretR dX1_echo_36 rfl (by unfold zecho; first | (rw [if_neg (by omega)]; done) | (rw [if_pos (by omega)])) rfl
      · refine zw_iload_n 16 rfl dX1_echo_15 rfl ?_
        refine zw_iload_n 17 rfl dX1_echo_16 rfl ?_
        refine zw_icmp_gt 35 20 rfl dX1_echo_17 (by decide) (by omega) (by omega) (fun h_17 => ?_) (fun h_17 => ?_)
        · refine zw_iconst 36 rfl dX1_echo_35 ?_
          exact zw_iretR dX1_echo_36 rfl (by unfold zecho; first | (rw [if_neg (by omega)]; done) | (rw [if_pos (by omega)])) rfl
        · refine zw_getE 23 rfl dX1_echo_20 kE ?_
          refine zw_iload_n 24 rfl dX1_echo_23 rfl ?_
          refine zw_bipush 26 rfl dX1_echo_24 rfl ?_
          refine zw_imul 27 rfl dX1_echo_26 ?_
          refine zw_iconst 28 rfl dX1_echo_27 ?_
          refine zw_iadd 29 rfl dX1_echo_28 ?_
          refine zw_iload_n 30 rfl dX1_echo_29 rfl ?_
          refine zw_iadd 31 rfl dX1_echo_30 ?_
          refine zw_tabE 32 rfl dX1_echo_31 (by omega) ?_
          refine zw_goto 36 dX1_echo_32 (by decide) ?_
          exact zw_iretR dX1_echo_36 rfl (by unfold zecho; first | (rw [if_neg (by omega)]; done) | (rw [if_pos (by omega)])) rfl
theorem zz_rem {v z : Int} (hz : 0 < z) : 0 ≤ v % z ∧ v % z < z := ⟨Int.emod_nonneg _ (by omega), Int.emod_lt_of_pos _ hz⟩
theorem zz_quo {v z : Int} (hz : 0 < z) (hv : 0 ≤ v) : 0 ≤ v / z ∧ v / z ≤ v := ⟨Int.ediv_nonneg hv (by omega), Int.ediv_le_self _ hv⟩
theorem zz_m2 {a b c d : Int} (ha : 0 ≤ a ∧ a ≤ c) (hb : 0 ≤ b ∧ b ≤ d) : 0 ≤ a * b ∧ a * b ≤ c * d := ⟨Int.mul_nonneg ha.1 hb.1, Int.mul_le_mul ha.2 hb.2 hb.1 (by omega)⟩
theorem zgift_r {v n z t : Int} (hz : 0 < z) : 0 ≤ zgift v n z t ∧ zgift v n z t ≤ z * 20 := by
  unfold zgift
  have h1 := zz_rem (v := v) hz
  have h2 := zecho_r t (n - v / z)
  have h3 := zecho_r t (n - v / z - 1)
  generalize v % z = r at *
  have a1 := zz_m2 (a := z - r) (c := z - r) ⟨by omega, by omega⟩ h2
  have a2 := zz_m2 (a := r) (c := r) ⟨by omega, by omega⟩ h3
  rw [Int.sub_mul] at a1
  generalize zecho t (n - v / z) = e1 at *
  generalize zecho t (n - v / z - 1) = e2 at *
  rw [Int.sub_mul]
  omega
theorem zbond_r {u v z t : Int} (hz : 0 < z) : 0 ≤ zbond u v z t ∧ zbond u v z t ≤ z * z * 20 := by
  unfold zbond
  have h1 := zz_rem (v := v) hz
  have h2 := zz_rem (v := u) hz
  have e0 := zecho_r t (u / z - v / z)
  have e1 := zecho_r t (u / z - v / z + 1)
  have e2 := zecho_r t (u / z - v / z - 1)
  generalize v % z = r at *
  generalize u % z = q at *
  generalize zecho t (u / z - v / z) = x0 at *
  generalize zecho t (u / z - v / z + 1) = x1 at *
  generalize zecho t (u / z - v / z - 1) = x2 at *
  have p1 := zz_m2 (a := z - q) (c := z - q) (b := z - r) (d := z - r) ⟨by omega, by omega⟩ ⟨by omega, by omega⟩
  have p2 := zz_m2 (a := q) (c := q) (b := r) (d := r) ⟨by omega, by omega⟩ ⟨by omega, by omega⟩
  have p3 := zz_m2 (a := q) (c := q) (b := z - r) (d := z - r) ⟨by omega, by omega⟩ ⟨by omega, by omega⟩
  have p4 := zz_m2 (a := z - q) (c := z - q) (b := r) (d := r) ⟨by omega, by omega⟩ ⟨by omega, by omega⟩
  have hs : ((z - q) * (z - r) + q * r) + q * (z - r) + (z - q) * r = z * z := by
    rw [Int.sub_mul, Int.mul_sub, Int.mul_sub, Int.sub_mul]; omega
  generalize (z - q) * (z - r) = m1 at *
  generalize q * r = m2 at *
  generalize q * (z - r) = m3 at *
  generalize (z - q) * r = m4 at *
  have g1 := zz_m2 (a := m1 + m2) (c := m1 + m2) (b := x0) (d := 20) ⟨by omega, by omega⟩ e0
  have g2 := zz_m2 (a := m3) (c := m3) (b := x1) (d := 20) ⟨by omega, by omega⟩ e1
  have g3 := zz_m2 (a := m4) (c := m4) (b := x2) (d := 20) ⟨by omega, by omega⟩ e2
  omega
theorem c_gift {G : zG} {S : zSh} {σ τ : zSt} {v n z t : Int} (hv : 0 ≤ v ∧ v ≤ 255) (hn : -64 ≤ n ∧ n ≤ 64) (hz : 1 ≤ z ∧ z ≤ 128) (ht : -2147483648 ≤ t ∧ t ≤ 2147483647) : zC G M_X1_gift [vi v, vi n, vi z, vi t] (S, σ, τ) (zR (some (vi (zgift v n z t))) (S, σ, τ)) := by
  refine zC_of 2 rfl (Nat.le_of_ble_eq_true rfl) ?_
  have hq := zz_quo (v := v) (z := z) (by omega) hv.1
  refine zw_iload_n 1 rfl dX1_gift_0 rfl ?_
  refine zw_if_gt 6 4 rfl dX1_gift_1 (by decide) (by omega) (fun h_1 => ?_) (fun h_1 => ?_)
  · refine zw_iload_n 7 rfl dX1_gift_6 rfl ?_
    refine zw_iload_n 8 rfl dX1_gift_7 rfl ?_
    refine zw_iload_n 9 rfl dX1_gift_8 rfl ?_
    refine zw_idiv 10 rfl dX1_gift_9 (by omega) (by omega) ?_
    refine zw_isub 11 rfl dX1_gift_10 ?_
    refine zw_istore 13 rfl dX1_gift_11 (Nat.le_of_ble_eq_true rfl) rfl ?_
    refine zw_iload_n 14 rfl dX1_gift_13 rfl ?_
    refine zw_iload_n 15 rfl dX1_gift_14 rfl ?_
    refine zw_irem 16 rfl dX1_gift_15 (by omega) (by omega) ?_
    refine zw_istore 18 rfl dX1_gift_16 (Nat.le_of_ble_eq_true rfl) rfl ?_
    refine zw_iload_n 19 rfl dX1_gift_18 rfl ?_
    refine zw_iload 21 rfl dX1_gift_19 rfl ?_
    refine zw_isub 22 rfl dX1_gift_21 ?_
    refine zw_iload_n 23 rfl dX1_gift_22 rfl ?_
    refine zw_iload 25 rfl dX1_gift_23 rfl ?_
    refine zw_cSi2 28 rfl dX1_gift_25 kX1_gift_105 (Nat.le_of_ble_eq_true rfl) (c_echo (by omega) (by omega)) ?_
    refine zw_imul 29 rfl dX1_gift_28 ?_
    refine zw_iload 31 rfl dX1_gift_29 rfl ?_
    refine zw_iload_n 32 rfl dX1_gift_31 rfl ?_
    refine zw_iload 34 rfl dX1_gift_32 rfl ?_
    refine zw_iconst 35 rfl dX1_gift_34 ?_
    refine zw_isub 36 rfl dX1_gift_35 ?_
    refine zw_cSi2 39 rfl dX1_gift_36 kX1_gift_105 (Nat.le_of_ble_eq_true rfl) (c_echo (by omega) (by omega)) ?_
    refine zw_imul 40 rfl dX1_gift_39 ?_
    refine zw_iadd 41 rfl dX1_gift_40 ?_
    exact zw_iretR dX1_gift_41 rfl rfl rfl
  · omega
theorem c_bond {G : zG} {S : zSh} {σ τ : zSt} {u v z t : Int} (hu : 0 ≤ u ∧ u ≤ 255) (hv : 0 ≤ v ∧ v ≤ 255) (hz : 1 ≤ z ∧ z ≤ 128) (ht : 0 ≤ t ∧ t ≤ 3) : zC G M_X1_bond [vi u, vi v, vi z, vi t] (S, σ, τ) (zR (some (vi (zbond u v z t))) (S, σ, τ)) := by
  refine zC_of 3 rfl (Nat.le_of_ble_eq_true rfl) ?_
  have hq := zz_quo (v := v) (z := z) (by omega) hv.1
  have hq2 := zz_quo (v := u) (z := z) (by omega) hu.1
  refine zw_iload_n 1 rfl dX1_bond_0 rfl ?_
  refine zw_if_gt 6 4 rfl dX1_bond_1 (by decide) (by omega) (fun h_1 => ?_) (fun h_1 => ?_)
  · refine zw_iload_n 7 rfl dX1_bond_6 rfl ?_
    refine zw_iload_n 8 rfl dX1_bond_7 rfl ?_
    refine zw_idiv 9 rfl dX1_bond_8 (by omega) (by omega) ?_
    refine zw_iload_n 10 rfl dX1_bond_9 rfl ?_
    refine zw_iload_n 11 rfl dX1_bond_10 rfl ?_
    refine zw_idiv 12 rfl dX1_bond_11 (by omega) (by omega) ?_
    refine zw_isub 13 rfl dX1_bond_12 ?_
    refine zw_istore 15 rfl dX1_bond_13 (Nat.le_of_ble_eq_true rfl) rfl ?_
    refine zw_iload 17 rfl dX1_bond_15 rfl ?_
    refine zw_iload_n 18 rfl dX1_bond_17 rfl ?_
    refine zw_iconst 19 rfl dX1_bond_18 ?_
    refine zw_iadd 20 rfl dX1_bond_19 ?_
    refine zw_icmp_gt 32 23 rfl dX1_bond_20 (by decide) (by omega) (by omega) (fun h_20 => ?_) (fun h_20 => ?_)
    · refine zw_iconst 33 rfl dX1_bond_32 ?_
      exact zw_iretR dX1_bond_33 rfl (by unfold zbond; rw [zecho_0 (by omega), zecho_0 (by omega), zecho_0 (by omega)]; simp) rfl
    · refine zw_iload 25 rfl dX1_bond_23 rfl ?_
      refine zw_iload_n 26 rfl dX1_bond_25 rfl ?_
      refine zw_ineg 27 rfl dX1_bond_26 ?_
      refine zw_iconst 28 rfl dX1_bond_27 ?_
      refine zw_isub 29 rfl dX1_bond_28 ?_
      refine zw_icmp_ge 34 32 rfl dX1_bond_29 (by decide) (by omega) (by omega) (fun h_29 => ?_) (fun h_29 => ?_)
      · refine zw_iload_n 35 rfl dX1_bond_34 rfl ?_
        refine zw_iload_n 36 rfl dX1_bond_35 rfl ?_
        refine zw_irem 37 rfl dX1_bond_36 (by omega) (by omega) ?_
        refine zw_istore 39 rfl dX1_bond_37 (Nat.le_of_ble_eq_true rfl) rfl ?_
        refine zw_iload_n 40 rfl dX1_bond_39 rfl ?_
        refine zw_iload_n 41 rfl dX1_bond_40 rfl ?_
        refine zw_irem 42 rfl dX1_bond_41 (by omega) (by omega) ?_
        refine zw_istore 44 rfl dX1_bond_42 (Nat.le_of_ble_eq_true rfl) rfl ?_
        refine zw_iload_n 45 rfl dX1_bond_44 rfl ?_
        refine zw_iload 47 rfl dX1_bond_45 rfl ?_
        refine zw_isub 48 rfl dX1_bond_47 ?_
        refine zw_iload_n 49 rfl dX1_bond_48 rfl ?_
        refine zw_iload 51 rfl dX1_bond_49 rfl ?_
        refine zw_isub 52 rfl dX1_bond_51 ?_
        refine zw_imul 53 rfl dX1_bond_52 ?_
        refine zw_iload 55 rfl dX1_bond_53 rfl ?_
        refine zw_iload 57 rfl dX1_bond_55 rfl ?_
        refine zw_imul 58 rfl dX1_bond_57 ?_
        refine zw_iadd 59 rfl dX1_bond_58 ?_
        refine zw_iload_n 60 rfl dX1_bond_59 rfl ?_
        refine zw_iload 62 rfl dX1_bond_60 rfl ?_
        refine zw_cSi2 65 rfl dX1_bond_62 kX1_bond_105 (Nat.le_of_ble_eq_true rfl) (c_echo (by omega) (by omega)) ?_
        refine zw_imul 66 rfl dX1_bond_65 ?_
        refine zw_iload 68 rfl dX1_bond_66 rfl ?_
        refine zw_iload_n 69 rfl dX1_bond_68 rfl ?_
        refine zw_iload 71 rfl dX1_bond_69 rfl ?_
        refine zw_isub 72 rfl dX1_bond_71 ?_
        refine zw_imul 73 rfl dX1_bond_72 ?_
        refine zw_iload_n 74 rfl dX1_bond_73 rfl ?_
        refine zw_iload 76 rfl dX1_bond_74 rfl ?_
        refine zw_iconst 77 rfl dX1_bond_76 ?_
        refine zw_iadd 78 rfl dX1_bond_77 ?_
        refine zw_cSi2 81 rfl dX1_bond_78 kX1_bond_105 (Nat.le_of_ble_eq_true rfl) (c_echo (by omega) (by omega)) ?_
        refine zw_imul 82 rfl dX1_bond_81 ?_
        refine zw_iadd 83 rfl dX1_bond_82 ?_
        refine zw_iload_n 84 rfl dX1_bond_83 rfl ?_
        refine zw_iload 86 rfl dX1_bond_84 rfl ?_
        refine zw_isub 87 rfl dX1_bond_86 ?_
        refine zw_iload 89 rfl dX1_bond_87 rfl ?_
        refine zw_imul 90 rfl dX1_bond_89 ?_
        refine zw_iload_n 91 rfl dX1_bond_90 rfl ?_
        refine zw_iload 93 rfl dX1_bond_91 rfl ?_
        refine zw_iconst 94 rfl dX1_bond_93 ?_
        refine zw_isub 95 rfl dX1_bond_94 ?_
        refine zw_cSi2 98 rfl dX1_bond_95 kX1_bond_105 (Nat.le_of_ble_eq_true rfl) (c_echo (by omega) (by omega)) ?_
        refine zw_imul 99 rfl dX1_bond_98 ?_
        refine zw_iadd 100 rfl dX1_bond_99 ?_
        exact zw_iretR dX1_bond_100 rfl rfl rfl
      · refine zw_iconst 33 rfl dX1_bond_32 ?_
        exact zw_iretR dX1_bond_33 rfl (by unfold zbond; rw [zecho_0 (by omega), zecho_0 (by omega), zecho_0 (by omega)]; simp) rfl
  · omega
