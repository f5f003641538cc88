/-! ===== bits of a long ===== -/
theorem zLn_bv (a : Nat) : (zL (a : Int)).toBitVec = BitVec.ofNat 64 a := by
  unfold zL
  rw [Int64.toBitVec_ofInt, BitVec.ofInt_natCast]
theorem zL_and (a b : Nat) : vl (zL a &&& zL b).toInt = vl ((a &&& b : Nat) : Int) := by
  show Value.long (Int64.ofInt (Int64.toInt _)) = _
  rw [Int64.ofInt_toInt]
  refine congrArg Value.long (Int64.toBitVec_inj.mp ?_)
  rw [Int64.toBitVec_and, zLn_bv, zLn_bv, zLn_bv, BitVec.ofNat_and]
theorem zL_or (a b : Nat) : vl (zL a ||| zL b).toInt = vl ((a ||| b : Nat) : Int) := by
  show Value.long (Int64.ofInt (Int64.toInt _)) = _
  rw [Int64.ofInt_toInt]
  refine congrArg Value.long (Int64.toBitVec_inj.mp ?_)
  rw [Int64.toBitVec_or, zLn_bv, zLn_bv, zLn_bv, BitVec.ofNat_or]
theorem zL_ushr {a n : Nat} (ha : a < 18446744073709551616) (hn : n < 64) : vl (((zL a).toUInt64 >>> ((zI n).toInt64.toUInt64 &&& Int64.toUInt64 63)).toInt64).toInt = vl ((a / 2 ^ n : Nat) : Int) := by
  show Value.long (Int64.ofInt (Int64.toInt _)) = _
  rw [Int64.ofInt_toInt]
  refine congrArg Value.long (Int64.toBitVec_inj.mp ?_)
  have h1 : ∀ m : Fin 64, (((zI m.val).toInt64.toUInt64 &&& Int64.toUInt64 63).toBitVec % 64#64).toNat = m.val := by decide
  have h2 := h1 ⟨n, hn⟩
  simp only at h2
  rw [UInt64.toBitVec_toInt64, UInt64.toBitVec_shiftRight, Int64.toBitVec_toUInt64, zLn_bv, zLn_bv, BitVec.ushiftRight_eq', show (64 : BitVec 64) = 64#64 from rfl, h2]
  apply BitVec.eq_of_toNat_eq
  rw [BitVec.toNat_ushiftRight, BitVec.toNat_ofNat, BitVec.toNat_ofNat, Nat.mod_eq_of_lt ha, Nat.shiftRight_eq_div_pow, Nat.mod_eq_of_lt (Nat.lt_of_le_of_lt (Nat.div_le_self _ _) ha)]
theorem zL_shln (a : Nat) {n : Nat} (hn : n ≤ 62) : vl (zL a <<< ((zI n).toInt64 &&& 63)).toInt = vl ((a * 2 ^ n : Nat) : Int) := by
  show Value.long (Int64.ofInt (Int64.toInt _)) = _
  rw [Int64.ofInt_toInt]
  refine congrArg Value.long (Int64.toBitVec_inj.mp ?_)
  have h1 : ∀ m : Fin 63, ((((zI m.val).toInt64 &&& 63).toBitVec).smod 64#64) = BitVec.ofNat 64 m.val := by decide
  have h2 := h1 ⟨n, by omega⟩
  simp only at h2
  rw [Int64.toBitVec_shiftLeft, zLn_bv, zLn_bv, show (64 : BitVec 64) = 64#64 from rfl, h2, BitVec.shiftLeft_eq']
  apply BitVec.eq_of_toNat_eq
  rw [BitVec.toNat_shiftLeft, BitVec.toNat_ofNat, BitVec.toNat_ofNat, BitVec.toNat_ofNat, Nat.mod_eq_of_lt (show n < 2 ^ 64 by omega), Nat.shiftLeft_eq, Nat.mod_mul_mod]
/-! ===== how many bits are set ===== -/
def zpc : Nat → Nat → Nat
  | 0, _ => 0
  | n + 1, x => x % 2 + zpc n (x / 2)
theorem zpc_le : ∀ (n x : Nat), zpc n x ≤ n
  | 0, _ => Nat.le_refl _
  | n + 1, x => by simp only [zpc]; have := zpc_le n (x / 2); omega
theorem zpc_add : ∀ (m n x : Nat), zpc (m + n) x = zpc m x + zpc n (x / 2 ^ m)
  | 0, n, x => by simp [zpc]
  | m + 1, n, x => by
    rw [show m + 1 + n = (m + n) + 1 by omega, zpc, zpc, zpc_add m n (x / 2), Nat.div_div_eq_div_mul, Nat.pow_succ, Nat.mul_comm 2]
    omega
def zm1 : Nat → Nat
  | 0 => 0
  | n + 1 => 4 * zm1 n + 1
def zm2 : Nat → Nat
  | 0 => 0
  | n + 1 => 16 * zm2 n + 3
def zm3 : Nat → Nat
  | 0 => 0
  | n + 1 => 256 * zm3 n + 15
theorem zand_d (x m k r : Nat) (hr : r < 2 ^ k) : x &&& (2 ^ k * m + r) = 2 ^ k * ((x / 2 ^ k) &&& m) + ((x % 2 ^ k) &&& r) := by
  have h1 : (x &&& (2 ^ k * m + r)) / 2 ^ k = (x / 2 ^ k) &&& m := by
    rw [Nat.and_div_two_pow, Nat.mul_add_div (Nat.two_pow_pos k), Nat.div_eq_of_lt hr, Nat.add_zero]
  have h2 : (x &&& (2 ^ k * m + r)) % 2 ^ k = (x % 2 ^ k) &&& r := by
    rw [Nat.and_mod_two_pow, Nat.mul_add_mod, Nat.mod_eq_of_lt hr]
  have h3 := Nat.div_add_mod (x &&& (2 ^ k * m + r)) (2 ^ k)
  rw [h1, h2] at h3
  exact h3.symm
theorem zand_1 (x m : Nat) : x &&& (4 * m + 1) = 4 * ((x / 4) &&& m) + x % 2 := by
  have := zand_d x m 2 1 (by omega)
  rw [show (2 : Nat) ^ 2 = 4 from rfl, Nat.and_one_is_mod] at this
  omega
theorem zand_2 (x m : Nat) : x &&& (16 * m + 3) = 16 * ((x / 16) &&& m) + x % 4 := by
  have := zand_d x m 4 3 (by omega)
  have h2 := Nat.and_two_pow_sub_one_eq_mod (x % 16) 2
  rw [show (2 : Nat) ^ 4 = 16 from rfl] at this
  rw [show (2 : Nat) ^ 2 - 1 = 3 from rfl, show (2 : Nat) ^ 2 = 4 from rfl] at h2
  omega
theorem zand_3 (x m : Nat) : x &&& (256 * m + 15) = 256 * ((x / 256) &&& m) + x % 16 := by
  have := zand_d x m 8 15 (by omega)
  have h2 := Nat.and_two_pow_sub_one_eq_mod (x % 256) 4
  rw [show (2 : Nat) ^ 8 = 256 from rfl] at this
  rw [show (2 : Nat) ^ 4 - 1 = 15 from rfl, show (2 : Nat) ^ 4 = 16 from rfl] at h2
  omega
def zs1 (n x : Nat) : Nat := x - ((x / 2) &&& zm1 n)
def zs2 (n y : Nat) : Nat := (y &&& zm2 n) + ((y / 4) &&& zm2 n)
def zs3 (n z : Nat) : Nat := (z + z / 16) &&& zm3 n
theorem zs1_s (n x : Nat) : zs1 (n + 1) x = 4 * zs1 n (x / 4) + (x % 4 - x % 4 / 2) := by
  unfold zs1
  rw [zm1, zand_1, show x / 2 / 4 = x / 4 / 2 by omega]
  have : (x / 4 / 2) &&& zm1 n ≤ x / 4 / 2 := Nat.and_le_left
  omega
theorem zs2_s (n y : Nat) : zs2 (n + 1) y = 16 * zs2 n (y / 16) + (y % 4 + y / 4 % 4) := by
  unfold zs2
  rw [zm2, zand_2, zand_2, show y / 4 / 16 = y / 16 / 4 by omega]
  omega
def zd1 (d : Nat) : Nat := (d % 4 - d % 4 / 2) + 4 * (d / 4 % 4 - d / 4 % 4 / 2) + 16 * (d / 16 % 4 - d / 16 % 4 / 2) + 64 * (d / 64 % 4 - d / 64 % 4 / 2)
def zd2 (d : Nat) : Nat := (zd1 d % 4 + zd1 d / 4 % 4) + 16 * (zd1 d / 16 % 4 + zd1 d / 64 % 4)
theorem zd_ok (d : Nat) (h : d < 256) : zd1 d < 256 ∧ zd2 d % 16 ≤ 4 ∧ zd2 d / 16 ≤ 4 ∧ zd2 d % 16 + zd2 d / 16 = zpc 8 d := by
  have : ∀ e : Fin 256, zd1 e.val < 256 ∧ zd2 e.val % 16 ≤ 4 ∧ zd2 e.val / 16 ≤ 4 ∧ zd2 e.val % 16 + zd2 e.val / 16 = zpc 8 e.val := by decide +kernel
  exact this ⟨d, h⟩
theorem zs1_4 (n x : Nat) : zs1 (n + 4) x = 256 * zs1 n (x / 256) + zd1 (x % 256) := by
  rw [show n + 4 = n + 1 + 1 + 1 + 1 by omega, zs1_s, zs1_s, zs1_s, zs1_s, show x / 4 / 4 / 4 / 4 = x / 256 by omega]
  unfold zd1
  rw [show x % 256 % 4 = x % 4 by omega, show x % 256 / 4 % 4 = x / 4 % 4 by omega, show x % 256 / 16 % 4 = x / 4 / 4 % 4 by omega, show x % 256 / 64 % 4 = x / 4 / 4 / 4 % 4 by omega]
  generalize x % 4 - x % 4 / 2 = q0
  generalize x / 4 % 4 - x / 4 % 4 / 2 = q1
  generalize x / 4 / 4 % 4 - x / 4 / 4 % 4 / 2 = q2
  generalize x / 4 / 4 / 4 % 4 - x / 4 / 4 / 4 % 4 / 2 = q3
  omega
theorem zs2_2 (n Y d : Nat) (hd : zd1 d < 256) : zs2 (n + 2) (256 * Y + zd1 d) = 256 * zs2 n Y + zd2 d := by
  rw [show n + 2 = n + 1 + 1 by omega, zs2_s, zs2_s, show (256 * Y + zd1 d) / 16 / 16 = Y by omega]
  unfold zd2
  omega
def zpp (n x : Nat) : Nat := zs2 (2 * n) (zs1 (4 * n) x)
theorem zpp_s (n x : Nat) : zpp (n + 1) x = 256 * zpp n (x / 256) + zd2 (x % 256) := by
  unfold zpp
  rw [show 4 * (n + 1) = 4 * n + 4 by omega, show 2 * (n + 1) = 2 * n + 2 by omega, zs1_4, zs2_2 _ _ _ (zd_ok _ (Nat.mod_lt _ (by omega))).1]
theorem zpp_n : ∀ (n x : Nat), zpp n x % 16 ≤ 4
  | 0, x => by simp [zpp, zs2, zm2]
  | n + 1, x => by rw [zpp_s]; have := zd_ok (x % 256) (Nat.mod_lt _ (by omega)); omega
theorem zs3_s (n x : Nat) : zs3 (n + 1) (zpp (n + 1) x) = 256 * zs3 n (zpp n (x / 256)) + zpc 8 (x % 256) := by
  have h1 := zd_ok (x % 256) (Nat.mod_lt _ (by omega))
  have h2 := zpp_n n (x / 256)
  rw [zpp_s]
  unfold zs3
  rw [zm3, zand_3]
  generalize zd2 (x % 256) = d at *
  generalize zpp n (x / 256) = a at *
  rw [show (256 * a + d + (256 * a + d) / 16) / 256 = a + a / 16 by omega, ← h1.2.2.2]
  omega
theorem zpc_8 (x : Nat) : zpc 8 (x % 256) = zpc 8 x := by
  simp only [zpc]
  omega
theorem zpop {x : Nat} (hx : x < 1099511627776) : ∃ b0 b1 b2 b3 b4 : Nat, (b0 ≤ 8 ∧ b1 ≤ 8 ∧ b2 ≤ 8 ∧ b3 ≤ 8 ∧ b4 ≤ 8) ∧ zs3 8 (zpp 8 x) = b0 + 256 * b1 + 65536 * b2 + 16777216 * b3 + 4294967296 * b4 ∧ zpc 40 x = b0 + b1 + b2 + b3 + b4 := by
  have z0 : ∀ n, zs3 n (zpp n 0) = 0 := by
    intro n
    induction n with
    | zero => simp [zs3, zm3]
    | succ n ih => rw [zs3_s, Nat.zero_div, ih]; simp [zpc]
  refine ⟨zpc 8 (x % 256), zpc 8 (x / 256 % 256), zpc 8 (x / 256 / 256 % 256), zpc 8 (x / 256 / 256 / 256 % 256), zpc 8 (x / 256 / 256 / 256 / 256 % 256), ⟨zpc_le _ _, zpc_le _ _, zpc_le _ _, zpc_le _ _, zpc_le _ _⟩, ?_, ?_⟩
  · have e5 : zs3 8 (zpp 8 x) = zs3 (3 + 1 + 1 + 1 + 1 + 1) (zpp (3 + 1 + 1 + 1 + 1 + 1) x) := rfl
    rw [e5, zs3_s, zs3_s, zs3_s, zs3_s, zs3_s, show x / 256 / 256 / 256 / 256 / 256 = 0 by omega, z0]
    omega
  · rw [zpc_8, zpc_8, zpc_8, zpc_8, zpc_8, show (40 : Nat) = 8 + (8 + (8 + (8 + 8))) from rfl, zpc_add, zpc_add, zpc_add, zpc_add, show (2 : Nat) ^ 8 = 256 from rfl]
    omega
theorem zfin {b0 b1 b2 b3 b4 m m1 m2 m3 : Nat} (hb : b0 ≤ 8 ∧ b1 ≤ 8 ∧ b2 ≤ 8 ∧ b3 ≤ 8 ∧ b4 ≤ 8) (hm : b0 + 256 * b1 + 65536 * b2 + 16777216 * b3 + 4294967296 * b4 = m) (h1 : m + m / 256 = m1) (h2 : m1 + m1 / 65536 = m2) (h3 : m2 + m2 / 4294967296 = m3) : m3 % 128 = b0 + b1 + b2 + b3 + b4 := by
  have e1 : m / 256 = b1 + 256 * b2 + 65536 * b3 + 16777216 * b4 := by omega
  have f1 : m1 = (b0 + b1) + 256 * (b1 + b2) + 65536 * (b2 + b3) + 16777216 * (b3 + b4) + 4294967296 * b4 := by omega
  clear h1 e1 hm
  have e2 : m1 / 65536 = (b2 + b3) + 256 * (b3 + b4) + 65536 * b4 := by omega
  have f2 : m2 = (b0 + b1 + b2 + b3) + 256 * (b1 + b2 + b3 + b4) + 65536 * (b2 + b3 + b4) + 16777216 * (b3 + b4) + 4294967296 * b4 := by omega
  clear h2 e2 f1
  have e3 : m2 / 4294967296 = b4 := by omega
  have f3 : m3 = (b0 + b1 + b2 + b3 + b4) + 256 * ((b1 + b2 + b3 + b4) + 256 * (b2 + b3 + b4) + 65536 * (b3 + b4) + 16777216 * b4) := by omega
  clear h3 e3 f2
  omega
theorem zs1_e (x : Nat) : zs1 32 x = x - ((x / 2) &&& 6148914691236517205) := by
  unfold zs1
  rw [show zm1 32 = 6148914691236517205 by decide +kernel]
theorem zs2_e (x : Nat) : zpp 8 x = (zs1 32 x &&& 3689348814741910323) + ((zs1 32 x / 4) &&& 3689348814741910323) := by
  unfold zpp zs2
  rw [show zm2 (2 * 8) = 3689348814741910323 by decide +kernel]
theorem zs3_e (x : Nat) : zs3 8 x = (x + x / 16) &&& 1085102592571150095 := by
  unfold zs3
  rw [show zm3 8 = 1085102592571150095 by decide +kernel]
theorem zIn_and (a b : Nat) : vi (zI a &&& zI b).toInt = vi ((a &&& b : Nat) : Int) := by
  show Value.int (Int32.ofInt (Int32.toInt _)) = _
  rw [Int32.ofInt_toInt]
  refine congrArg Value.int (Int32.toBitVec_inj.mp ?_)
  unfold zI
  rw [Int32.toBitVec_and, Int32.toBitVec_ofInt, Int32.toBitVec_ofInt, Int32.toBitVec_ofInt, BitVec.ofInt_natCast, BitVec.ofInt_natCast, BitVec.ofInt_natCast, BitVec.ofNat_and]
theorem c_bitCount {G : zG} {S : zSh} {σ τ : zSt} {x : Nat} (hx : x < 1099511627776) : zC G M_J13_bitCount_95d88 [vl x] (S, σ, τ) (zR (some (vi (zpc 40 x : Nat))) (S, σ, τ)) := by
  obtain ⟨b0, b1, b2, b3, b4, hb, h1, h2⟩ := zpop hx
  have e1 := zs1_e x
  have l1 : ((x / 2) &&& 6148914691236517205) ≤ x / 2 := Nat.and_le_left
  have e2 := zs2_e x
  have l2 : zs1 32 x ≤ x := by rw [e1]; omega
  have l3 : (zs1 32 x &&& 3689348814741910323) ≤ zs1 32 x := Nat.and_le_left
  have l4 : ((zs1 32 x / 4) &&& 3689348814741910323) ≤ zs1 32 x / 4 := Nat.and_le_left
  have e3 := zs3_e (zpp 8 x)
  refine zC_of 0 rfl (Nat.le_of_ble_eq_true rfl) ?_
  refine zw_lload_n 1 rfl dJ13_bitCount_95d88_0 rfl ?_
  refine zw_lload_n 2 rfl dJ13_bitCount_95d88_1 rfl ?_
  refine zw_iconst 3 rfl dJ13_bitCount_95d88_2 ?_
  refine zw_lushr 4 rfl dJ13_bitCount_95d88_3 ?_
  rw [show (1 : Int) = ((1 : Nat) : Int) from rfl, zL_ushr (by omega) (by omega), show (2 : Nat) ^ 1 = 2 from rfl]
  refine zw_ldc2_w 7 rfl dJ13_bitCount_95d88_4 kJ13_314 ?_
  refine zw_land 8 rfl dJ13_bitCount_95d88_7 ?_
  rw [show (6148914691236517205 : Int) = ((6148914691236517205 : Nat) : Int) from rfl, zL_and]
  refine zw_lsub 9 rfl dJ13_bitCount_95d88_8 ?_
  rw [show (x : Int) - (((x / 2) &&& 6148914691236517205 : Nat) : Int) = (zs1 32 x : Nat) by rw [e1]; omega]
  generalize zs1 32 x = y at *
  refine zw_lstore_n 10 rfl dJ13_bitCount_95d88_9 (Nat.le_of_ble_eq_true rfl) rfl ?_
  refine zw_lload_n 11 rfl dJ13_bitCount_95d88_10 rfl ?_
  refine zw_ldc2_w 14 rfl dJ13_bitCount_95d88_11 kJ13_316 ?_
  refine zw_land 15 rfl dJ13_bitCount_95d88_14 ?_
  rw [show (3689348814741910323 : Int) = ((3689348814741910323 : Nat) : Int) from rfl, zL_and]
  refine zw_lload_n 16 rfl dJ13_bitCount_95d88_15 rfl ?_
  refine zw_iconst 17 rfl dJ13_bitCount_95d88_16 ?_
  refine zw_lushr 18 rfl dJ13_bitCount_95d88_17 ?_
  rw [show (2 : Int) = ((2 : Nat) : Int) from rfl, zL_ushr (by omega) (by omega), show (2 : Nat) ^ 2 = 4 from rfl]
  refine zw_ldc2_w 21 rfl dJ13_bitCount_95d88_18 kJ13_316 ?_
  refine zw_land 22 rfl dJ13_bitCount_95d88_21 ?_
  rw [show (3689348814741910323 : Int) = ((3689348814741910323 : Nat) : Int) from rfl, zL_and]
  refine zw_ladd 23 rfl dJ13_bitCount_95d88_22 ?_
  rw [← Int.natCast_add, ← e2]
  generalize zpp 8 x = z at *
  refine zw_lstore_n 24 rfl dJ13_bitCount_95d88_23 (Nat.le_of_ble_eq_true rfl) rfl ?_
  refine zw_lload_n 25 rfl dJ13_bitCount_95d88_24 rfl ?_
  refine zw_lload_n 26 rfl dJ13_bitCount_95d88_25 rfl ?_
  refine zw_iconst 27 rfl dJ13_bitCount_95d88_26 ?_
  refine zw_lushr 28 rfl dJ13_bitCount_95d88_27 ?_
  rw [show (4 : Int) = ((4 : Nat) : Int) from rfl, zL_ushr (by omega) (by omega), show (2 : Nat) ^ 4 = 16 from rfl]
  refine zw_ladd 29 rfl dJ13_bitCount_95d88_28 ?_
  rw [← Int.natCast_add]
  refine zw_ldc2_w 32 rfl dJ13_bitCount_95d88_29 kJ13_318 ?_
  refine zw_land 33 rfl dJ13_bitCount_95d88_32 ?_
  rw [show (1085102592571150095 : Int) = ((1085102592571150095 : Nat) : Int) from rfl, zL_and, ← e3, h1]
  generalize hm : b0 + 256 * b1 + 65536 * b2 + 16777216 * b3 + 4294967296 * b4 = m
  refine zw_lstore_n 34 rfl dJ13_bitCount_95d88_33 (Nat.le_of_ble_eq_true rfl) rfl ?_
  refine zw_lload_n 35 rfl dJ13_bitCount_95d88_34 rfl ?_
  refine zw_lload_n 36 rfl dJ13_bitCount_95d88_35 rfl ?_
  refine zw_bipush 38 rfl dJ13_bitCount_95d88_36 rfl ?_
  refine zw_lushr 39 rfl dJ13_bitCount_95d88_38 ?_
  rw [show (8 : Int) = ((8 : Nat) : Int) from rfl, zL_ushr (by omega) (by omega), show (2 : Nat) ^ 8 = 256 from rfl]
  refine zw_ladd 40 rfl dJ13_bitCount_95d88_39 ?_
  rw [← Int.natCast_add]
  generalize hm1 : m + m / 256 = m1
  refine zw_lstore_n 41 rfl dJ13_bitCount_95d88_40 (Nat.le_of_ble_eq_true rfl) rfl ?_
  refine zw_lload_n 42 rfl dJ13_bitCount_95d88_41 rfl ?_
  refine zw_lload_n 43 rfl dJ13_bitCount_95d88_42 rfl ?_
  refine zw_bipush 45 rfl dJ13_bitCount_95d88_43 rfl ?_
  refine zw_lushr 46 rfl dJ13_bitCount_95d88_45 ?_
  rw [show (16 : Int) = ((16 : Nat) : Int) from rfl, zL_ushr (by omega) (by omega), show (2 : Nat) ^ 16 = 65536 from rfl]
  refine zw_ladd 47 rfl dJ13_bitCount_95d88_46 ?_
  rw [← Int.natCast_add]
  generalize hm2 : m1 + m1 / 65536 = m2
  refine zw_lstore_n 48 rfl dJ13_bitCount_95d88_47 (Nat.le_of_ble_eq_true rfl) rfl ?_
  refine zw_lload_n 49 rfl dJ13_bitCount_95d88_48 rfl ?_
  refine zw_lload_n 50 rfl dJ13_bitCount_95d88_49 rfl ?_
  refine zw_bipush 52 rfl dJ13_bitCount_95d88_50 rfl ?_
  refine zw_lushr 53 rfl dJ13_bitCount_95d88_52 ?_
  rw [show (32 : Int) = ((32 : Nat) : Int) from rfl, zL_ushr (by omega) (by omega), show (2 : Nat) ^ 32 = 4294967296 from rfl]
  refine zw_ladd 54 rfl dJ13_bitCount_95d88_53 ?_
  rw [← Int.natCast_add]
  generalize hm3 : m2 + m2 / 4294967296 = m3
  refine zw_lstore_n 55 rfl dJ13_bitCount_95d88_54 (Nat.le_of_ble_eq_true rfl) rfl ?_
  refine zw_lload_n 56 rfl dJ13_bitCount_95d88_55 rfl ?_
  refine zw_l2i 57 rfl dJ13_bitCount_95d88_56 ?_
  refine zw_bipush 59 rfl dJ13_bitCount_95d88_57 rfl ?_
  refine zw_iand 60 rfl dJ13_bitCount_95d88_59 ?_
  have key : m3 % 128 = b0 + b1 + b2 + b3 + b4 := zfin hb hm hm1 hm2 hm3
  have k2 : m3 &&& 127 = b0 + b1 + b2 + b3 + b4 := by rw [← key]; exact Nat.and_two_pow_sub_one_eq_mod m3 7
  rw [h2]
  refine zw_iret (st := []) dJ13_bitCount_95d88_60 rfl ⟨?_, rfl⟩
  have k3 := zIn_and m3 127
  rw [k2] at k3
  exact congrArg some k3
