theorem zw_iconst {G : zG} {M : zMt} {Q : Option Value → zWd → Prop} {pc : Nat} {lv : List (Option Value)} {st : List Value} {w : zWd} {n : Int} (q : Nat) (hq : pc + 1 = q) (hd : decode (zm_cc M) pc = .ok (.iconst n, 1)) (k : zW G M Q q lv (vi n :: st) w) : zW G M Q pc lv (st) w := by
  subst hq
  intro p l e s m args below meth c H locs ls hc hl hh
  have k := k p l e s m args below meth c H locs ls hc hl hh
  exact lv_iconst hc.1 hc.2.1 hd rfl k
theorem zw_bipush {G : zG} {M : zMt} {Q : Option Value → zWd → Prop} {pc : Nat} {lv : List (Option Value)} {st : List Value} {w : zWd} {n : Int} (q : Nat) (hq : pc + 2 = q) (hd : decode (zm_cc M) pc = .ok (.bipush n, 2)) (hn : (Int8.ofInt n).toInt32 = zI n) (k : zW G M Q q lv (vi n :: st) w) : zW G M Q pc lv (st) w := by
  subst hq
  intro p l e s m args below meth c H locs ls hc hl hh
  have k := k p l e s m args below meth c H locs ls hc hl hh
  exact lv_bipush hc.1 hc.2.1 hd hn k
theorem zw_sipush {G : zG} {M : zMt} {Q : Option Value → zWd → Prop} {pc : Nat} {lv : List (Option Value)} {st : List Value} {w : zWd} {n : Int} (q : Nat) (hq : pc + 3 = q) (hd : decode (zm_cc M) pc = .ok (.sipush n, 3)) (hn : (Int16.ofInt n).toInt32 = zI n) (k : zW G M Q q lv (vi n :: st) w) : zW G M Q pc lv (st) w := by
  subst hq
  intro p l e s m args below meth c H locs ls hc hl hh
  have k := k p l e s m args below meth c H locs ls hc hl hh
  exact lv_sipush hc.1 hc.2.1 hd hn k
theorem zw_lconst {G : zG} {M : zMt} {Q : Option Value → zWd → Prop} {pc : Nat} {lv : List (Option Value)} {st : List Value} {w : zWd} {n : Fin 2} (q : Nat) (hq : pc + 1 = q) (hd : decode (zm_cc M) pc = .ok (.lconst n, 1)) (k : zW G M Q q lv (vl (n.val : Int) :: st) w) : zW G M Q pc lv (st) w := by
  subst hq
  intro p l e s m args below meth c H locs ls hc hl hh
  have k := k p l e s m args below meth c H locs ls hc hl hh
  exact lv_lconst hc.1 hc.2.1 hd (v := zL (n.val : Int)) (by rcases n with ⟨_ | _ | n, h⟩ <;> first | rfl | omega) k
theorem zw_iload_n {G : zG} {M : zMt} {Q : Option Value → zWd → Prop} {pc : Nat} {lv : List (Option Value)} {st : List Value} {w : zWd} {n : Fin 4} {x : Int} (q : Nat) (hq : pc + 1 = q) (hd : decode (zm_cc M) pc = .ok (.iload_n n, 1)) (hv : lv[(n : Nat)]? = some (some (vi x))) (k : zW G M Q q lv (vi x :: st) w) : zW G M Q pc lv (st) w := by
  subst hq
  intro p l e s m args below meth c H locs ls hc hl hh
  have k := k p l e s m args below meth c H locs ls hc hl hh
  exact lv_iload_n hc.1 hc.2.1 hd rfl (hl.at hv) k
theorem zw_iload {G : zG} {M : zMt} {Q : Option Value → zWd → Prop} {pc : Nat} {lv : List (Option Value)} {st : List Value} {w : zWd} {n : Nat} {x : Int} (q : Nat) (hq : pc + 2 = q) (hd : decode (zm_cc M) pc = .ok (.iload n, 2)) (hv : lv[n]? = some (some (vi x))) (k : zW G M Q q lv (vi x :: st) w) : zW G M Q pc lv (st) w := by
  subst hq
  intro p l e s m args below meth c H locs ls hc hl hh
  have k := k p l e s m args below meth c H locs ls hc hl hh
  exact lv_iload hc.1 hc.2.1 hd (hl.at hv) k
theorem zw_lload_n {G : zG} {M : zMt} {Q : Option Value → zWd → Prop} {pc : Nat} {lv : List (Option Value)} {st : List Value} {w : zWd} {n : Fin 4} {x : Int} (q : Nat) (hq : pc + 1 = q) (hd : decode (zm_cc M) pc = .ok (.lload_n n, 1)) (hv : lv[(n : Nat)]? = some (some (vl x))) (k : zW G M Q q lv (vl x :: st) w) : zW G M Q pc lv (st) w := by
  subst hq
  intro p l e s m args below meth c H locs ls hc hl hh
  have k := k p l e s m args below meth c H locs ls hc hl hh
  exact lv_lload_n hc.1 hc.2.1 hd rfl (hl.at hv) k
theorem zw_lload {G : zG} {M : zMt} {Q : Option Value → zWd → Prop} {pc : Nat} {lv : List (Option Value)} {st : List Value} {w : zWd} {n : Nat} {x : Int} (q : Nat) (hq : pc + 2 = q) (hd : decode (zm_cc M) pc = .ok (.lload n, 2)) (hv : lv[n]? = some (some (vl x))) (k : zW G M Q q lv (vl x :: st) w) : zW G M Q pc lv (st) w := by
  subst hq
  intro p l e s m args below meth c H locs ls hc hl hh
  have k := k p l e s m args below meth c H locs ls hc hl hh
  exact lv_lload hc.1 hc.2.1 hd (hl.at hv) k
theorem zw_aload_n {G : zG} {M : zMt} {Q : Option Value → zWd → Prop} {pc : Nat} {lv : List (Option Value)} {st : List Value} {w : zWd} {n : Fin 4} {x : Nat} (q : Nat) (hq : pc + 1 = q) (hd : decode (zm_cc M) pc = .ok (.aload_n n, 1)) (hv : lv[(n : Nat)]? = some (some (.ref x))) (k : zW G M Q q lv (.ref x :: st) w) : zW G M Q pc lv (st) w := by
  subst hq
  intro p l e s m args below meth c H locs ls hc hl hh
  have k := k p l e s m args below meth c H locs ls hc hl hh
  exact lv_aload_n hc.1 hc.2.1 hd rfl (hl.at hv) k
theorem zw_aload {G : zG} {M : zMt} {Q : Option Value → zWd → Prop} {pc : Nat} {lv : List (Option Value)} {st : List Value} {w : zWd} {n : Nat} {x : Nat} (q : Nat) (hq : pc + 2 = q) (hd : decode (zm_cc M) pc = .ok (.aload n, 2)) (hv : lv[n]? = some (some (.ref x))) (k : zW G M Q q lv (.ref x :: st) w) : zW G M Q pc lv (st) w := by
  subst hq
  intro p l e s m args below meth c H locs ls hc hl hh
  have k := k p l e s m args below meth c H locs ls hc hl hh
  exact lv_aload hc.1 hc.2.1 hd (hl.at hv) k
theorem zw_iadd {G : zG} {M : zMt} {Q : Option Value → zWd → Prop} {pc : Nat} {lv : List (Option Value)} {st : List Value} {w : zWd} {a b : Int} (q : Nat) (hq : pc + 1 = q) (hd : decode (zm_cc M) pc = .ok (.iadd, 1)) (k : zW G M Q q lv (vi (a + b) :: st) w) : zW G M Q pc lv (vi b :: vi a :: st) w := by
  subst hq
  intro p l e s m args below meth c H locs ls hc hl hh
  have k := k p l e s m args below meth c H locs ls hc hl hh
  exact lv_iadd hc.1 hc.2.1 hd (by rw [zI_add]; exact k)
theorem zw_isub {G : zG} {M : zMt} {Q : Option Value → zWd → Prop} {pc : Nat} {lv : List (Option Value)} {st : List Value} {w : zWd} {a b : Int} (q : Nat) (hq : pc + 1 = q) (hd : decode (zm_cc M) pc = .ok (.isub, 1)) (k : zW G M Q q lv (vi (a - b) :: st) w) : zW G M Q pc lv (vi b :: vi a :: st) w := by
  subst hq
  intro p l e s m args below meth c H locs ls hc hl hh
  have k := k p l e s m args below meth c H locs ls hc hl hh
  exact lv_isub hc.1 hc.2.1 hd (by rw [zI_sub]; exact k)
theorem zw_imul {G : zG} {M : zMt} {Q : Option Value → zWd → Prop} {pc : Nat} {lv : List (Option Value)} {st : List Value} {w : zWd} {a b : Int} (q : Nat) (hq : pc + 1 = q) (hd : decode (zm_cc M) pc = .ok (.imul, 1)) (k : zW G M Q q lv (vi (a * b) :: st) w) : zW G M Q pc lv (vi b :: vi a :: st) w := by
  subst hq
  intro p l e s m args below meth c H locs ls hc hl hh
  have k := k p l e s m args below meth c H locs ls hc hl hh
  exact lv_imul hc.1 hc.2.1 hd (by rw [zI_mul]; exact k)
theorem zw_ladd {G : zG} {M : zMt} {Q : Option Value → zWd → Prop} {pc : Nat} {lv : List (Option Value)} {st : List Value} {w : zWd} {a b : Int} (q : Nat) (hq : pc + 1 = q) (hd : decode (zm_cc M) pc = .ok (.ladd, 1)) (k : zW G M Q q lv (vl (a + b) :: st) w) : zW G M Q pc lv (vl b :: vl a :: st) w := by
  subst hq
  intro p l e s m args below meth c H locs ls hc hl hh
  have k := k p l e s m args below meth c H locs ls hc hl hh
  exact lv_ladd hc.1 hc.2.1 hd (by rw [zL_add]; exact k)
theorem zw_lsub {G : zG} {M : zMt} {Q : Option Value → zWd → Prop} {pc : Nat} {lv : List (Option Value)} {st : List Value} {w : zWd} {a b : Int} (q : Nat) (hq : pc + 1 = q) (hd : decode (zm_cc M) pc = .ok (.lsub, 1)) (k : zW G M Q q lv (vl (a - b) :: st) w) : zW G M Q pc lv (vl b :: vl a :: st) w := by
  subst hq
  intro p l e s m args below meth c H locs ls hc hl hh
  have k := k p l e s m args below meth c H locs ls hc hl hh
  exact lv_lsub hc.1 hc.2.1 hd (by rw [zL_sub]; exact k)
theorem zw_lmul {G : zG} {M : zMt} {Q : Option Value → zWd → Prop} {pc : Nat} {lv : List (Option Value)} {st : List Value} {w : zWd} {a b : Int} (q : Nat) (hq : pc + 1 = q) (hd : decode (zm_cc M) pc = .ok (.lmul, 1)) (k : zW G M Q q lv (vl (a * b) :: st) w) : zW G M Q pc lv (vl b :: vl a :: st) w := by
  subst hq
  intro p l e s m args below meth c H locs ls hc hl hh
  have k := k p l e s m args below meth c H locs ls hc hl hh
  exact lv_lmul hc.1 hc.2.1 hd (by rw [zL_mul]; exact k)
theorem zw_ineg {G : zG} {M : zMt} {Q : Option Value → zWd → Prop} {pc : Nat} {lv : List (Option Value)} {st : List Value} {w : zWd} {a : Int} (q : Nat) (hq : pc + 1 = q) (hd : decode (zm_cc M) pc = .ok (.ineg, 1)) (k : zW G M Q q lv (vi (-a) :: st) w) : zW G M Q pc lv (vi a :: st) w := by
  subst hq
  intro p l e s m args below meth c H locs ls hc hl hh
  have k := k p l e s m args below meth c H locs ls hc hl hh
  exact lv_ineg hc.1 hc.2.1 hd (by rw [zI_neg]; exact k)
theorem zw_idiv {G : zG} {M : zMt} {Q : Option Value → zWd → Prop} {pc : Nat} {lv : List (Option Value)} {st : List Value} {w : zWd} {a b : Int} (q : Nat) (hq : pc + 1 = q) (hd : decode (zm_cc M) pc = .ok (.idiv, 1)) (ha : 0 ≤ a ∧ a ≤ 2147483647) (hb : 0 < b ∧ b ≤ 2147483647) (k : zW G M Q q lv (vi (a / b) :: st) w) : zW G M Q pc lv (vi b :: vi a :: st) w := by
  subst hq
  intro p l e s m args below meth c H locs ls hc hl hh
  have k := k p l e s m args below meth c H locs ls hc hl hh
  exact lv_idiv hc.1 hc.2.1 hd (by intro h0; rw [zI_0, zI_eq (by omega) (by omega)] at h0; omega) (by rw [zI_div ha hb]; exact k)
theorem zw_irem {G : zG} {M : zMt} {Q : Option Value → zWd → Prop} {pc : Nat} {lv : List (Option Value)} {st : List Value} {w : zWd} {a b : Int} (q : Nat) (hq : pc + 1 = q) (hd : decode (zm_cc M) pc = .ok (.irem, 1)) (ha : 0 ≤ a ∧ a ≤ 2147483647) (hb : 0 < b ∧ b ≤ 2147483647) (k : zW G M Q q lv (vi (a % b) :: st) w) : zW G M Q pc lv (vi b :: vi a :: st) w := by
  subst hq
  intro p l e s m args below meth c H locs ls hc hl hh
  have k := k p l e s m args below meth c H locs ls hc hl hh
  exact lv_irem hc.1 hc.2.1 hd (by intro h0; rw [zI_0, zI_eq (by omega) (by omega)] at h0; omega) (by rw [zI_rem ha hb]; exact k)
theorem zw_ldiv {G : zG} {M : zMt} {Q : Option Value → zWd → Prop} {pc : Nat} {lv : List (Option Value)} {st : List Value} {w : zWd} {a b : Int} (q : Nat) (hq : pc + 1 = q) (hd : decode (zm_cc M) pc = .ok (.ldiv, 1)) (ha : 0 ≤ a ∧ a ≤ 9223372036854775807) (hb : 0 < b ∧ b ≤ 9223372036854775807) (k : zW G M Q q lv (vl (a / b) :: st) w) : zW G M Q pc lv (vl b :: vl a :: st) w := by
  subst hq
  intro p l e s m args below meth c H locs ls hc hl hh
  have k := k p l e s m args below meth c H locs ls hc hl hh
  exact lv_ldiv hc.1 hc.2.1 hd (by intro h0; rw [zL_0, zL_eq (by omega) (by omega)] at h0; omega) (by rw [zL_div ha hb]; exact k)
theorem zw_lrem {G : zG} {M : zMt} {Q : Option Value → zWd → Prop} {pc : Nat} {lv : List (Option Value)} {st : List Value} {w : zWd} {a b : Int} (q : Nat) (hq : pc + 1 = q) (hd : decode (zm_cc M) pc = .ok (.lrem, 1)) (ha : 0 ≤ a ∧ a ≤ 9223372036854775807) (hb : 0 < b ∧ b ≤ 9223372036854775807) (k : zW G M Q q lv (vl (a % b) :: st) w) : zW G M Q pc lv (vl b :: vl a :: st) w := by
  subst hq
  intro p l e s m args below meth c H locs ls hc hl hh
  have k := k p l e s m args below meth c H locs ls hc hl hh
  exact lv_lrem hc.1 hc.2.1 hd (by intro h0; rw [zL_0, zL_eq (by omega) (by omega)] at h0; omega) (by rw [zL_rem ha hb]; exact k)
theorem zw_i2l {G : zG} {M : zMt} {Q : Option Value → zWd → Prop} {pc : Nat} {lv : List (Option Value)} {st : List Value} {w : zWd} {a : Int} (q : Nat) (hq : pc + 1 = q) (hd : decode (zm_cc M) pc = .ok (.i2l, 1)) (ha : -2147483648 ≤ a ∧ a ≤ 2147483647) (k : zW G M Q q lv (vl a :: st) w) : zW G M Q pc lv (vi a :: st) w := by
  subst hq
  intro p l e s m args below meth c H locs ls hc hl hh
  have k := k p l e s m args below meth c H locs ls hc hl hh
  exact lv_i2l hc.1 hc.2.1 hd (zI_l ha) k
theorem zw_l2i {G : zG} {M : zMt} {Q : Option Value → zWd → Prop} {pc : Nat} {lv : List (Option Value)} {st : List Value} {w : zWd} {a : Int} (q : Nat) (hq : pc + 1 = q) (hd : decode (zm_cc M) pc = .ok (.l2i, 1)) (k : zW G M Q q lv (vi a :: st) w) : zW G M Q pc lv (vl a :: st) w := by
  subst hq
  intro p l e s m args below meth c H locs ls hc hl hh
  have k := k p l e s m args below meth c H locs ls hc hl hh
  exact lv_l2i hc.1 hc.2.1 hd (zL_i a) k
theorem zw_iand {G : zG} {M : zMt} {Q : Option Value → zWd → Prop} {pc : Nat} {lv : List (Option Value)} {st : List Value} {w : zWd} {a b : Int} (q : Nat) (hq : pc + 1 = q) (hd : decode (zm_cc M) pc = .ok (.iand, 1)) (k : zW G M Q q lv (vi (zI a &&& zI b).toInt :: st) w) : zW G M Q pc lv (vi b :: vi a :: st) w := by
  subst hq
  intro p l e s m args below meth c H locs ls hc hl hh
  have k := k p l e s m args below meth c H locs ls hc hl hh
  exact lv_iand hc.1 hc.2.1 hd (by rw [show (zI a &&& zI b) = zI (zI a &&& zI b).toInt from (zI_self _).symm]; exact k)
theorem zw_ior {G : zG} {M : zMt} {Q : Option Value → zWd → Prop} {pc : Nat} {lv : List (Option Value)} {st : List Value} {w : zWd} {a b : Int} (q : Nat) (hq : pc + 1 = q) (hd : decode (zm_cc M) pc = .ok (.ior, 1)) (k : zW G M Q q lv (vi (zI a ||| zI b).toInt :: st) w) : zW G M Q pc lv (vi b :: vi a :: st) w := by
  subst hq
  intro p l e s m args below meth c H locs ls hc hl hh
  have k := k p l e s m args below meth c H locs ls hc hl hh
  exact lv_ior hc.1 hc.2.1 hd (by rw [show (zI a ||| zI b) = zI (zI a ||| zI b).toInt from (zI_self _).symm]; exact k)
theorem zw_ishl {G : zG} {M : zMt} {Q : Option Value → zWd → Prop} {pc : Nat} {lv : List (Option Value)} {st : List Value} {w : zWd} {a b : Int} (q : Nat) (hq : pc + 1 = q) (hd : decode (zm_cc M) pc = .ok (.ishl, 1)) (k : zW G M Q q lv (vi (zI a <<< (zI b &&& 31)).toInt :: st) w) : zW G M Q pc lv (vi b :: vi a :: st) w := by
  subst hq
  intro p l e s m args below meth c H locs ls hc hl hh
  have k := k p l e s m args below meth c H locs ls hc hl hh
  exact lv_ishl hc.1 hc.2.1 hd (by rw [show (zI a <<< (zI b &&& 31)) = zI (zI a <<< (zI b &&& 31)).toInt from (zI_self _).symm]; exact k)
theorem zw_ishr {G : zG} {M : zMt} {Q : Option Value → zWd → Prop} {pc : Nat} {lv : List (Option Value)} {st : List Value} {w : zWd} {a b : Int} (q : Nat) (hq : pc + 1 = q) (hd : decode (zm_cc M) pc = .ok (.ishr, 1)) (k : zW G M Q q lv (vi (zI a >>> (zI b &&& 31)).toInt :: st) w) : zW G M Q pc lv (vi b :: vi a :: st) w := by
  subst hq
  intro p l e s m args below meth c H locs ls hc hl hh
  have k := k p l e s m args below meth c H locs ls hc hl hh
  exact lv_ishr hc.1 hc.2.1 hd (by rw [show (zI a >>> (zI b &&& 31)) = zI (zI a >>> (zI b &&& 31)).toInt from (zI_self _).symm]; exact k)
theorem zw_iushr {G : zG} {M : zMt} {Q : Option Value → zWd → Prop} {pc : Nat} {lv : List (Option Value)} {st : List Value} {w : zWd} {a b : Int} (q : Nat) (hq : pc + 1 = q) (hd : decode (zm_cc M) pc = .ok (.iushr, 1)) (k : zW G M Q q lv (vi ((zI a).toUInt32 >>> ((zI b).toUInt32 &&& Int32.toUInt32 31)).toInt32.toInt :: st) w) : zW G M Q pc lv (vi b :: vi a :: st) w := by
  subst hq
  intro p l e s m args below meth c H locs ls hc hl hh
  have k := k p l e s m args below meth c H locs ls hc hl hh
  exact lv_iushr hc.1 hc.2.1 hd (zI_self _).symm k
theorem zw_land {G : zG} {M : zMt} {Q : Option Value → zWd → Prop} {pc : Nat} {lv : List (Option Value)} {st : List Value} {w : zWd} {a b : Int} (q : Nat) (hq : pc + 1 = q) (hd : decode (zm_cc M) pc = .ok (.land, 1)) (k : zW G M Q q lv (vl (zL a &&& zL b).toInt :: st) w) : zW G M Q pc lv (vl b :: vl a :: st) w := by
  subst hq
  intro p l e s m args below meth c H locs ls hc hl hh
  have k := k p l e s m args below meth c H locs ls hc hl hh
  exact lv_land hc.1 hc.2.1 hd (by rw [show (zL a &&& zL b) = zL (zL a &&& zL b).toInt from (zL_self _).symm]; exact k)
theorem zw_lor {G : zG} {M : zMt} {Q : Option Value → zWd → Prop} {pc : Nat} {lv : List (Option Value)} {st : List Value} {w : zWd} {a b : Int} (q : Nat) (hq : pc + 1 = q) (hd : decode (zm_cc M) pc = .ok (.lor, 1)) (k : zW G M Q q lv (vl (zL a ||| zL b).toInt :: st) w) : zW G M Q pc lv (vl b :: vl a :: st) w := by
  subst hq
  intro p l e s m args below meth c H locs ls hc hl hh
  have k := k p l e s m args below meth c H locs ls hc hl hh
  exact lv_lor hc.1 hc.2.1 hd (by rw [show (zL a ||| zL b) = zL (zL a ||| zL b).toInt from (zL_self _).symm]; exact k)
theorem zw_lshl {G : zG} {M : zMt} {Q : Option Value → zWd → Prop} {pc : Nat} {lv : List (Option Value)} {st : List Value} {w : zWd} {a b : Int} (q : Nat) (hq : pc + 1 = q) (hd : decode (zm_cc M) pc = .ok (.lshl, 1)) (k : zW G M Q q lv (vl (zL a <<< ((zI b).toInt64 &&& 63)).toInt :: st) w) : zW G M Q pc lv (vi b :: vl a :: st) w := by
  subst hq
  intro p l e s m args below meth c H locs ls hc hl hh
  have k := k p l e s m args below meth c H locs ls hc hl hh
  exact lv_lshl hc.1 hc.2.1 hd (zL_self _).symm k
theorem zw_lushr {G : zG} {M : zMt} {Q : Option Value → zWd → Prop} {pc : Nat} {lv : List (Option Value)} {st : List Value} {w : zWd} {a b : Int} (q : Nat) (hq : pc + 1 = q) (hd : decode (zm_cc M) pc = .ok (.lushr, 1)) (k : zW G M Q q lv (vl (((zL a).toUInt64 >>> ((zI b).toInt64.toUInt64 &&& Int64.toUInt64 63)).toInt64).toInt :: st) w) : zW G M Q pc lv (vi b :: vl a :: st) w := by
  subst hq
  intro p l e s m args below meth c H locs ls hc hl hh
  have k := k p l e s m args below meth c H locs ls hc hl hh
  exact lv_lushr hc.1 hc.2.1 hd (zL_self _).symm k
theorem zw_lcmp {G : zG} {M : zMt} {Q : Option Value → zWd → Prop} {pc : Nat} {lv : List (Option Value)} {st : List Value} {w : zWd} {a b : Int} (q : Nat) (hq : pc + 1 = q) (hd : decode (zm_cc M) pc = .ok (.lcmp, 1)) (ha : -9223372036854775808 ≤ a ∧ a ≤ 9223372036854775807) (hb : -9223372036854775808 ≤ b ∧ b ≤ 9223372036854775807) (k : zW G M Q q lv (vi (if a < b then -1 else if a = b then 0 else 1) :: st) w) : zW G M Q pc lv (vl b :: vl a :: st) w := by
  subst hq
  intro p l e s m args below meth c H locs ls hc hl hh
  have k := k p l e s m args below meth c H locs ls hc hl hh
  have e : lg_cmp (zL a) (zL b) = zI (if a < b then -1 else if a = b then 0 else 1) := by
    have h1 := zL_lt ha hb
    have h2 := zL_lt hb ha
    have h3 := zL_eq ha hb
    unfold lg_cmp
    by_cases x : a < b
    · rw [if_neg (fun h9 => by have := h2.mp h9; omega), if_neg (by rw [h3]; omega), if_pos x]; rfl
    · by_cases y : a = b
      · rw [if_neg (fun h9 => by have := h2.mp h9; omega), if_pos (by rw [h3]; exact y), if_neg x, if_pos y]; rfl
      · rw [if_pos (h2.mpr (by omega)), if_neg x, if_neg y]; rfl
  exact W.lcmp hc.1 hc.2.1 hd (by rw [e]; exact k)
theorem zw_dup {G : zG} {M : zMt} {Q : Option Value → zWd → Prop} {pc : Nat} {lv : List (Option Value)} {st : List Value} {w : zWd} {x : Value} (q : Nat) (hq : pc + 1 = q) (hd : decode (zm_cc M) pc = .ok (.dup, 1)) (cx : x.category = 1) (k : zW G M Q q lv (x :: x :: st) w) : zW G M Q pc lv (x :: st) w := by
  subst hq
  intro p l e s m args below meth c H locs ls hc hl hh
  have k := k p l e s m args below meth c H locs ls hc hl hh
  exact lv_dup hc.1 hc.2.1 hd cx k
theorem zw_pop {G : zG} {M : zMt} {Q : Option Value → zWd → Prop} {pc : Nat} {lv : List (Option Value)} {st : List Value} {w : zWd} {x : Value} (q : Nat) (hq : pc + 1 = q) (hd : decode (zm_cc M) pc = .ok (.pop, 1)) (cx : x.category = 1) (k : zW G M Q q lv (st) w) : zW G M Q pc lv (x :: st) w := by
  subst hq
  intro p l e s m args below meth c H locs ls hc hl hh
  have k := k p l e s m args below meth c H locs ls hc hl hh
  exact lv_pop hc.1 hc.2.1 hd cx k
theorem zw_dup_x1 {G : zG} {M : zMt} {Q : Option Value → zWd → Prop} {pc : Nat} {lv : List (Option Value)} {st : List Value} {w : zWd} {x y : Value} (q : Nat) (hq : pc + 1 = q) (hd : decode (zm_cc M) pc = .ok (.dup_x1, 1)) (cx : x.category = 1) (cy : y.category = 1) (k : zW G M Q q lv (x :: y :: x :: st) w) : zW G M Q pc lv (x :: y :: st) w := by
  subst hq
  intro p l e s m args below meth c H locs ls hc hl hh
  have k := k p l e s m args below meth c H locs ls hc hl hh
  exact lv_dup_x1 hc.1 hc.2.1 hd cx cy k
theorem zw_dup_x2 {G : zG} {M : zMt} {Q : Option Value → zWd → Prop} {pc : Nat} {lv : List (Option Value)} {st : List Value} {w : zWd} {x y z : Value} (q : Nat) (hq : pc + 1 = q) (hd : decode (zm_cc M) pc = .ok (.dup_x2, 1)) (cx : x.category = 1) (cy : y.category = 1) (cz : z.category = 1) (k : zW G M Q q lv (x :: y :: z :: x :: st) w) : zW G M Q pc lv (x :: y :: z :: st) w := by
  subst hq
  intro p l e s m args below meth c H locs ls hc hl hh
  have k := k p l e s m args below meth c H locs ls hc hl hh
  exact lv_dup_x2 hc.1 hc.2.1 hd cx cy cz k
theorem zw_dup2_11 {G : zG} {M : zMt} {Q : Option Value → zWd → Prop} {pc : Nat} {lv : List (Option Value)} {st : List Value} {w : zWd} {x y : Value} (q : Nat) (hq : pc + 1 = q) (hd : decode (zm_cc M) pc = .ok (.dup2, 1)) (cx : x.category = 1) (cy : y.category = 1) (k : zW G M Q q lv (x :: y :: x :: y :: st) w) : zW G M Q pc lv (x :: y :: st) w := by
  subst hq
  intro p l e s m args below meth c H locs ls hc hl hh
  have k := k p l e s m args below meth c H locs ls hc hl hh
  exact lv_dup2_11 hc.1 hc.2.1 hd cx cy k
theorem zw_dup2_2 {G : zG} {M : zMt} {Q : Option Value → zWd → Prop} {pc : Nat} {lv : List (Option Value)} {st : List Value} {w : zWd} {x : Value} (q : Nat) (hq : pc + 1 = q) (hd : decode (zm_cc M) pc = .ok (.dup2, 1)) (cx : x.category = 2) (k : zW G M Q q lv (x :: x :: st) w) : zW G M Q pc lv (x :: st) w := by
  subst hq
  intro p l e s m args below meth c H locs ls hc hl hh
  have k := k p l e s m args below meth c H locs ls hc hl hh
  exact lv_dup2_2 hc.1 hc.2.1 hd cx k
/-- the place below isn't the first half of a long -/
def zprev (lv : List (Option Value)) : Nat → Bool
  | 0 => true
  | n + 1 => match lv[n]? with
    | some (some v) => v.category == 1
    | _ => true
theorem zl_set1 {ls ls' : Array Slot} {nL i : Nat} {lv : List (Option Value)} {l : List (Nat × Value)} {v : Value} (hv : zprev lv i = true) (h2 : ∀ i v, lv[i]? = some (some v) → (i, v) ∈ l) (hl : lv_has ls' nL ((i, v) :: l.filter (fun q => !(q.1 == i) && !(q.1 + 1 == i && q.2.category == 2)))) : zl ls' nL (lv.set i (some v)) := by
  refine ⟨_, hl, fun j u hj => ?_⟩
  by_cases hji : j = i
  · subst hji
    rw [List.getElem?_set] at hj
    simp only [if_true] at hj
    split at hj
    · simp at hj; subst hj; exact List.mem_cons_self
    · simp at hj
  · rw [List.getElem?_set_ne (Ne.symm hji)] at hj
    refine List.mem_cons_of_mem _ (List.mem_filter.mpr ⟨h2 j u hj, ?_⟩)
    by_cases hj1 : j + 1 = i
    · subst hj1
      simp only [zprev, hj] at hv
      simp at hv
      simp [hv]
    · simp [hji, hj1]
theorem zl_set2 {ls ls' : Array Slot} {nL i : Nat} {lv : List (Option Value)} {l : List (Nat × Value)} {v : Value} (hv : zprev lv i = true) (h2 : ∀ i v, lv[i]? = some (some v) → (i, v) ∈ l) (hl : lv_has ls' nL ((i, v) :: l.filter (fun q => !(q.1 == i) && (!(q.1 == i + 1) && !(q.1 + 1 == i && q.2.category == 2))))) : zl ls' nL ((lv.set i (some v)).set (i + 1) none) := by
  refine ⟨_, hl, fun j u hj => ?_⟩
  by_cases hj2 : j = i + 1
  · subst hj2
    rw [List.getElem?_set] at hj
    simp only [if_true] at hj
    split at hj <;> simp at hj
  rw [List.getElem?_set_ne (Ne.symm hj2)] at hj
  by_cases hji : j = i
  · subst hji
    rw [List.getElem?_set] at hj
    simp only [if_true] at hj
    split at hj
    · simp at hj; subst hj; exact List.mem_cons_self
    · simp at hj
  · rw [List.getElem?_set_ne (Ne.symm hji)] at hj
    refine List.mem_cons_of_mem _ (List.mem_filter.mpr ⟨h2 j u hj, ?_⟩)
    by_cases hj1 : j + 1 = i
    · subst hj1
      simp only [zprev, hj] at hv
      simp at hv
      simp [hv]
      omega
    · simp [hji, hj1, hj2]
theorem zw_istore_n {G : zG} {M : zMt} {Q : Option Value → zWd → Prop} {pc : Nat} {lv : List (Option Value)} {st : List Value} {w : zWd} {n : Fin 4} {x : Int} (q : Nat) (hq : pc + 1 = q) (hd : decode (zm_cc M) pc = .ok (.istore_n n, 1)) (hn : (n : Nat) < zm_nL M) (hv : zprev lv (n : Nat) = true) (k : zW G M Q q (lv.set (n : Nat) (some (vi x))) st w) : zW G M Q pc lv (vi x :: st) w := by
  subst hq
  intro p l e s m args below meth c H locs ls hc hl hh
  obtain ⟨l0, h1, h2⟩ := hl
  exact lv_istore_n hc.1 hc.2.1 hd rfl h1 hn rfl (fun ls hl => k p l e s m args below meth c H locs ls hc (zl_set1 (ls := ls) hv h2 hl) hh)
theorem zw_istore {G : zG} {M : zMt} {Q : Option Value → zWd → Prop} {pc : Nat} {lv : List (Option Value)} {st : List Value} {w : zWd} {n : Nat} {x : Int} (q : Nat) (hq : pc + 2 = q) (hd : decode (zm_cc M) pc = .ok (.istore n, 2)) (hn : n < zm_nL M) (hv : zprev lv n = true) (k : zW G M Q q (lv.set n (some (vi x))) st w) : zW G M Q pc lv (vi x :: st) w := by
  subst hq
  intro p l e s m args below meth c H locs ls hc hl hh
  obtain ⟨l0, h1, h2⟩ := hl
  exact lv_istore hc.1 hc.2.1 hd h1 hn rfl (fun ls hl => k p l e s m args below meth c H locs ls hc (zl_set1 (ls := ls) hv h2 hl) hh)
theorem zw_lstore_n {G : zG} {M : zMt} {Q : Option Value → zWd → Prop} {pc : Nat} {lv : List (Option Value)} {st : List Value} {w : zWd} {n : Fin 4} {x : Int} (q : Nat) (hq : pc + 1 = q) (hd : decode (zm_cc M) pc = .ok (.lstore_n n, 1)) (hn : (n : Nat) + 1 < zm_nL M) (hv : zprev lv (n : Nat) = true) (k : zW G M Q q ((lv.set (n : Nat) (some (vl x))).set ((n : Nat) + 1) none) st w) : zW G M Q pc lv (vl x :: st) w := by
  subst hq
  intro p l e s m args below meth c H locs ls hc hl hh
  obtain ⟨l0, h1, h2⟩ := hl
  exact lv_lstore_n hc.1 hc.2.1 hd rfl h1 hn rfl (fun ls hl => k p l e s m args below meth c H locs ls hc (zl_set2 (ls := ls) hv h2 hl) hh)
theorem zw_lstore {G : zG} {M : zMt} {Q : Option Value → zWd → Prop} {pc : Nat} {lv : List (Option Value)} {st : List Value} {w : zWd} {n : Nat} {x : Int} (q : Nat) (hq : pc + 2 = q) (hd : decode (zm_cc M) pc = .ok (.lstore n, 2)) (hn : n + 1 < zm_nL M) (hv : zprev lv n = true) (k : zW G M Q q ((lv.set n (some (vl x))).set (n + 1) none) st w) : zW G M Q pc lv (vl x :: st) w := by
  subst hq
  intro p l e s m args below meth c H locs ls hc hl hh
  obtain ⟨l0, h1, h2⟩ := hl
  exact lv_lstore hc.1 hc.2.1 hd h1 hn rfl (fun ls hl => k p l e s m args below meth c H locs ls hc (zl_set2 (ls := ls) hv h2 hl) hh)
theorem zw_astore_n {G : zG} {M : zMt} {Q : Option Value → zWd → Prop} {pc : Nat} {lv : List (Option Value)} {st : List Value} {w : zWd} {n : Fin 4} {x : Nat} (q : Nat) (hq : pc + 1 = q) (hd : decode (zm_cc M) pc = .ok (.astore_n n, 1)) (hn : (n : Nat) < zm_nL M) (hv : zprev lv (n : Nat) = true) (k : zW G M Q q (lv.set (n : Nat) (some (.ref x))) st w) : zW G M Q pc lv (.ref x :: st) w := by
  subst hq
  intro p l e s m args below meth c H locs ls hc hl hh
  obtain ⟨l0, h1, h2⟩ := hl
  exact lv_astore_n hc.1 hc.2.1 hd rfl h1 hn rfl (fun ls hl => k p l e s m args below meth c H locs ls hc (zl_set1 (ls := ls) hv h2 hl) hh)
theorem zw_astore {G : zG} {M : zMt} {Q : Option Value → zWd → Prop} {pc : Nat} {lv : List (Option Value)} {st : List Value} {w : zWd} {n : Nat} {x : Nat} (q : Nat) (hq : pc + 2 = q) (hd : decode (zm_cc M) pc = .ok (.astore n, 2)) (hn : n < zm_nL M) (hv : zprev lv n = true) (k : zW G M Q q (lv.set n (some (.ref x))) st w) : zW G M Q pc lv (.ref x :: st) w := by
  subst hq
  intro p l e s m args below meth c H locs ls hc hl hh
  obtain ⟨l0, h1, h2⟩ := hl
  exact lv_astore hc.1 hc.2.1 hd h1 hn rfl (fun ls hl => k p l e s m args below meth c H locs ls hc (zl_set1 (ls := ls) hv h2 hl) hh)
theorem zw_iinc {G : zG} {M : zMt} {Q : Option Value → zWd → Prop} {pc : Nat} {lv : List (Option Value)} {st : List Value} {w : zWd} {n : Nat} {i x : Int} (q : Nat) (hq : pc + 3 = q) (hd : decode (zm_cc M) pc = .ok (.iinc n i, 3)) (hn : n < zm_nL M) (hv : zprev lv n = true) (hx : lv[n]? = some (some (vi x))) (k : zW G M Q q (lv.set n (some (vi (x + i)))) st w) : zW G M Q pc lv st w := by
  subst hq
  intro p l e s m args below meth c H locs ls hc hl hh
  obtain ⟨l0, h1, h2⟩ := hl
  obtain ⟨k0, hk0⟩ := List.getElem?_of_mem (h2 n _ hx)
  exact lv_iinc hc.1 hc.2.1 hd h1 hk0 (v := zI (x + i)) (zI_add x i) hn rfl (fun ls hl => k p l e s m args below meth c H locs ls hc (zl_set1 (ls := ls) hv h2 hl) hh)
theorem zw_icmp_eq {G : zG} {M : zMt} {Q : Option Value → zWd → Prop} {pc : Nat} {lv : List (Option Value)} {st : List Value} {w : zWd} {a b : Int} {off : Int} (tgt q : Nat) (hq : pc + 3 = q) (hd : decode (zm_cc M) pc = .ok (.if_icmp .eq off, 3)) (ht : (pc : Int) + off = (tgt : Int)) (ha : -2147483648 ≤ a ∧ a ≤ 2147483647) (hb : -2147483648 ≤ b ∧ b ≤ 2147483647) (kt : a = b → zW G M Q tgt lv st w) (kf : ¬ a = b → zW G M Q q lv st w) : zW G M Q pc lv (vi b :: vi a :: st) w := by
  subst hq
  intro p l e' s m args below meth c H locs ls hc hl hh
  have e := zI_eq ha hb
  exact lv_icmp_eq hc.1 hc.2.1 hd ht (fun h => kt (e.mp h) p l e' s m args below meth c H locs ls hc hl hh) (fun h => kf ((not_congr e).mp h) p l e' s m args below meth c H locs ls hc hl hh)
theorem zw_icmp_ne {G : zG} {M : zMt} {Q : Option Value → zWd → Prop} {pc : Nat} {lv : List (Option Value)} {st : List Value} {w : zWd} {a b : Int} {off : Int} (tgt q : Nat) (hq : pc + 3 = q) (hd : decode (zm_cc M) pc = .ok (.if_icmp .ne off, 3)) (ht : (pc : Int) + off = (tgt : Int)) (ha : -2147483648 ≤ a ∧ a ≤ 2147483647) (hb : -2147483648 ≤ b ∧ b ≤ 2147483647) (kt : ¬ a = b → zW G M Q tgt lv st w) (kf : a = b → zW G M Q q lv st w) : zW G M Q pc lv (vi b :: vi a :: st) w := by
  subst hq
  intro p l e' s m args below meth c H locs ls hc hl hh
  have e := zI_eq ha hb
  exact lv_icmp_ne hc.1 hc.2.1 hd ht (fun h => kt ((not_congr e).mp h) p l e' s m args below meth c H locs ls hc hl hh) (fun h => kf (e.mp h) p l e' s m args below meth c H locs ls hc hl hh)
theorem zw_icmp_lt {G : zG} {M : zMt} {Q : Option Value → zWd → Prop} {pc : Nat} {lv : List (Option Value)} {st : List Value} {w : zWd} {a b : Int} {off : Int} (tgt q : Nat) (hq : pc + 3 = q) (hd : decode (zm_cc M) pc = .ok (.if_icmp .lt off, 3)) (ht : (pc : Int) + off = (tgt : Int)) (ha : -2147483648 ≤ a ∧ a ≤ 2147483647) (hb : -2147483648 ≤ b ∧ b ≤ 2147483647) (kt : a < b → zW G M Q tgt lv st w) (kf : ¬ a < b → zW G M Q q lv st w) : zW G M Q pc lv (vi b :: vi a :: st) w := by
  subst hq
  intro p l e' s m args below meth c H locs ls hc hl hh
  have e := zI_lt ha hb
  exact lv_icmp_lt hc.1 hc.2.1 hd ht (fun h => kt (e.mp h) p l e' s m args below meth c H locs ls hc hl hh) (fun h => kf ((not_congr e).mp h) p l e' s m args below meth c H locs ls hc hl hh)
theorem zw_icmp_ge {G : zG} {M : zMt} {Q : Option Value → zWd → Prop} {pc : Nat} {lv : List (Option Value)} {st : List Value} {w : zWd} {a b : Int} {off : Int} (tgt q : Nat) (hq : pc + 3 = q) (hd : decode (zm_cc M) pc = .ok (.if_icmp .ge off, 3)) (ht : (pc : Int) + off = (tgt : Int)) (ha : -2147483648 ≤ a ∧ a ≤ 2147483647) (hb : -2147483648 ≤ b ∧ b ≤ 2147483647) (kt : b ≤ a → zW G M Q tgt lv st w) (kf : ¬ b ≤ a → zW G M Q q lv st w) : zW G M Q pc lv (vi b :: vi a :: st) w := by
  subst hq
  intro p l e' s m args below meth c H locs ls hc hl hh
  have e := zI_le hb ha
  exact lv_icmp_ge hc.1 hc.2.1 hd ht (fun h => kt (e.mp h) p l e' s m args below meth c H locs ls hc hl hh) (fun h => kf ((not_congr e).mp h) p l e' s m args below meth c H locs ls hc hl hh)
theorem zw_icmp_gt {G : zG} {M : zMt} {Q : Option Value → zWd → Prop} {pc : Nat} {lv : List (Option Value)} {st : List Value} {w : zWd} {a b : Int} {off : Int} (tgt q : Nat) (hq : pc + 3 = q) (hd : decode (zm_cc M) pc = .ok (.if_icmp .gt off, 3)) (ht : (pc : Int) + off = (tgt : Int)) (ha : -2147483648 ≤ a ∧ a ≤ 2147483647) (hb : -2147483648 ≤ b ∧ b ≤ 2147483647) (kt : b < a → zW G M Q tgt lv st w) (kf : ¬ b < a → zW G M Q q lv st w) : zW G M Q pc lv (vi b :: vi a :: st) w := by
  subst hq
  intro p l e' s m args below meth c H locs ls hc hl hh
  have e := zI_lt hb ha
  exact lv_icmp_gt hc.1 hc.2.1 hd ht (fun h => kt (e.mp h) p l e' s m args below meth c H locs ls hc hl hh) (fun h => kf ((not_congr e).mp h) p l e' s m args below meth c H locs ls hc hl hh)
theorem zw_icmp_le {G : zG} {M : zMt} {Q : Option Value → zWd → Prop} {pc : Nat} {lv : List (Option Value)} {st : List Value} {w : zWd} {a b : Int} {off : Int} (tgt q : Nat) (hq : pc + 3 = q) (hd : decode (zm_cc M) pc = .ok (.if_icmp .le off, 3)) (ht : (pc : Int) + off = (tgt : Int)) (ha : -2147483648 ≤ a ∧ a ≤ 2147483647) (hb : -2147483648 ≤ b ∧ b ≤ 2147483647) (kt : a ≤ b → zW G M Q tgt lv st w) (kf : ¬ a ≤ b → zW G M Q q lv st w) : zW G M Q pc lv (vi b :: vi a :: st) w := by
  subst hq
  intro p l e' s m args below meth c H locs ls hc hl hh
  have e := zI_le ha hb
  exact lv_icmp_le hc.1 hc.2.1 hd ht (fun h => kt (e.mp h) p l e' s m args below meth c H locs ls hc hl hh) (fun h => kf ((not_congr e).mp h) p l e' s m args below meth c H locs ls hc hl hh)
theorem zw_if_eq {G : zG} {M : zMt} {Q : Option Value → zWd → Prop} {pc : Nat} {lv : List (Option Value)} {st : List Value} {w : zWd} {a : Int} {off : Int} (tgt q : Nat) (hq : pc + 3 = q) (hd : decode (zm_cc M) pc = .ok (.ifCond .eq off, 3)) (ht : (pc : Int) + off = (tgt : Int)) (ha : -2147483648 ≤ a ∧ a ≤ 2147483647) (kt : a = 0 → zW G M Q tgt lv st w) (kf : ¬ a = 0 → zW G M Q q lv st w) : zW G M Q pc lv (vi a :: st) w := by
  subst hq
  intro p l e' s m args below meth c H locs ls hc hl hh
  have e := zI_eq ha (by omega : -2147483648 ≤ (0:Int) ∧ (0:Int) ≤ 2147483647)
  exact lv_if_eq hc.1 hc.2.1 hd ht (fun h => kt (e.mp h) p l e' s m args below meth c H locs ls hc hl hh) (fun h => kf ((not_congr e).mp h) p l e' s m args below meth c H locs ls hc hl hh)
theorem zw_if_ne {G : zG} {M : zMt} {Q : Option Value → zWd → Prop} {pc : Nat} {lv : List (Option Value)} {st : List Value} {w : zWd} {a : Int} {off : Int} (tgt q : Nat) (hq : pc + 3 = q) (hd : decode (zm_cc M) pc = .ok (.ifCond .ne off, 3)) (ht : (pc : Int) + off = (tgt : Int)) (ha : -2147483648 ≤ a ∧ a ≤ 2147483647) (kt : ¬ a = 0 → zW G M Q tgt lv st w) (kf : a = 0 → zW G M Q q lv st w) : zW G M Q pc lv (vi a :: st) w := by
  subst hq
  intro p l e' s m args below meth c H locs ls hc hl hh
  have e := zI_eq ha (by omega : -2147483648 ≤ (0:Int) ∧ (0:Int) ≤ 2147483647)
  exact lv_if_ne hc.1 hc.2.1 hd ht (fun h => kt ((not_congr e).mp h) p l e' s m args below meth c H locs ls hc hl hh) (fun h => kf (e.mp h) p l e' s m args below meth c H locs ls hc hl hh)
theorem zw_if_lt {G : zG} {M : zMt} {Q : Option Value → zWd → Prop} {pc : Nat} {lv : List (Option Value)} {st : List Value} {w : zWd} {a : Int} {off : Int} (tgt q : Nat) (hq : pc + 3 = q) (hd : decode (zm_cc M) pc = .ok (.ifCond .lt off, 3)) (ht : (pc : Int) + off = (tgt : Int)) (ha : -2147483648 ≤ a ∧ a ≤ 2147483647) (kt : a < 0 → zW G M Q tgt lv st w) (kf : ¬ a < 0 → zW G M Q q lv st w) : zW G M Q pc lv (vi a :: st) w := by
  subst hq
  intro p l e' s m args below meth c H locs ls hc hl hh
  have e := zI_lt ha (by omega : -2147483648 ≤ (0:Int) ∧ (0:Int) ≤ 2147483647)
  exact lv_if_lt hc.1 hc.2.1 hd ht (fun h => kt (e.mp h) p l e' s m args below meth c H locs ls hc hl hh) (fun h => kf ((not_congr e).mp h) p l e' s m args below meth c H locs ls hc hl hh)
theorem zw_if_ge {G : zG} {M : zMt} {Q : Option Value → zWd → Prop} {pc : Nat} {lv : List (Option Value)} {st : List Value} {w : zWd} {a : Int} {off : Int} (tgt q : Nat) (hq : pc + 3 = q) (hd : decode (zm_cc M) pc = .ok (.ifCond .ge off, 3)) (ht : (pc : Int) + off = (tgt : Int)) (ha : -2147483648 ≤ a ∧ a ≤ 2147483647) (kt : 0 ≤ a → zW G M Q tgt lv st w) (kf : ¬ 0 ≤ a → zW G M Q q lv st w) : zW G M Q pc lv (vi a :: st) w := by
  subst hq
  intro p l e' s m args below meth c H locs ls hc hl hh
  have e := zI_le (by omega : -2147483648 ≤ (0:Int) ∧ (0:Int) ≤ 2147483647) ha
  exact lv_if_ge hc.1 hc.2.1 hd ht (fun h => kt (e.mp h) p l e' s m args below meth c H locs ls hc hl hh) (fun h => kf ((not_congr e).mp h) p l e' s m args below meth c H locs ls hc hl hh)
theorem zw_if_gt {G : zG} {M : zMt} {Q : Option Value → zWd → Prop} {pc : Nat} {lv : List (Option Value)} {st : List Value} {w : zWd} {a : Int} {off : Int} (tgt q : Nat) (hq : pc + 3 = q) (hd : decode (zm_cc M) pc = .ok (.ifCond .gt off, 3)) (ht : (pc : Int) + off = (tgt : Int)) (ha : -2147483648 ≤ a ∧ a ≤ 2147483647) (kt : 0 < a → zW G M Q tgt lv st w) (kf : ¬ 0 < a → zW G M Q q lv st w) : zW G M Q pc lv (vi a :: st) w := by
  subst hq
  intro p l e' s m args below meth c H locs ls hc hl hh
  have e := zI_lt (by omega : -2147483648 ≤ (0:Int) ∧ (0:Int) ≤ 2147483647) ha
  exact lv_if_gt hc.1 hc.2.1 hd ht (fun h => kt (e.mp h) p l e' s m args below meth c H locs ls hc hl hh) (fun h => kf ((not_congr e).mp h) p l e' s m args below meth c H locs ls hc hl hh)
theorem zw_if_le {G : zG} {M : zMt} {Q : Option Value → zWd → Prop} {pc : Nat} {lv : List (Option Value)} {st : List Value} {w : zWd} {a : Int} {off : Int} (tgt q : Nat) (hq : pc + 3 = q) (hd : decode (zm_cc M) pc = .ok (.ifCond .le off, 3)) (ht : (pc : Int) + off = (tgt : Int)) (ha : -2147483648 ≤ a ∧ a ≤ 2147483647) (kt : a ≤ 0 → zW G M Q tgt lv st w) (kf : ¬ a ≤ 0 → zW G M Q q lv st w) : zW G M Q pc lv (vi a :: st) w := by
  subst hq
  intro p l e' s m args below meth c H locs ls hc hl hh
  have e := zI_le ha (by omega : -2147483648 ≤ (0:Int) ∧ (0:Int) ≤ 2147483647)
  exact lv_if_le hc.1 hc.2.1 hd ht (fun h => kt (e.mp h) p l e' s m args below meth c H locs ls hc hl hh) (fun h => kf ((not_congr e).mp h) p l e' s m args below meth c H locs ls hc hl hh)
theorem zw_goto {G : zG} {M : zMt} {Q : Option Value → zWd → Prop} {pc : Nat} {lv : List (Option Value)} {st : List Value} {w : zWd} {off : Int} (tgt : Nat) (hd : decode (zm_cc M) pc = .ok (.goto off, 3)) (ht : (pc : Int) + off = (tgt : Int)) (k : zW G M Q tgt lv st w) : zW G M Q pc lv st w := by
  intro p l e s m args below meth c H locs ls hc hl hh
  exact lv_goto hc.1 hc.2.1 hd ht (k p l e s m args below meth c H locs ls hc hl hh)
theorem zw_tableIn {G : zG} {M : zMt} {Q : Option Value → zWd → Prop} {pc : Nat} {lv : List (Option Value)} {st : List Value} {w : zWd} {a dflt lo hi off : Int} {offs : Array Int} {len : Nat} (tgt : Nat) (hd : decode (zm_cc M) pc = .ok (.tableswitch dflt lo hi offs, len)) (ha : -2147483648 ≤ a ∧ a ≤ 2147483647) (h1 : ¬ a < lo) (h2 : ¬ hi < a) (ho : offs[(a - lo).toNat]? = some off) (ht : (pc : Int) + off = (tgt : Int)) (k : zW G M Q tgt lv st w) : zW G M Q pc lv (vi a :: st) w := by
  intro p l e s m args below meth c H locs ls hc hl hh
  exact lv_tableIn hc.1 hc.2.1 hd (by rw [zI_t ha]; exact h1) (by rw [zI_t ha]; exact h2) (by rw [zI_t ha]; exact ho) ht (k p l e s m args below meth c H locs ls hc hl hh)
theorem zw_tableOut {G : zG} {M : zMt} {Q : Option Value → zWd → Prop} {pc : Nat} {lv : List (Option Value)} {st : List Value} {w : zWd} {a dflt lo hi : Int} {offs : Array Int} {len : Nat} (tgt : Nat) (hd : decode (zm_cc M) pc = .ok (.tableswitch dflt lo hi offs, len)) (ha : -2147483648 ≤ a ∧ a ≤ 2147483647) (h : a < lo ∨ hi < a) (ht : (pc : Int) + dflt = (tgt : Int)) (k : zW G M Q tgt lv st w) : zW G M Q pc lv (vi a :: st) w := by
  intro p l e s m args below meth c H locs ls hc hl hh
  exact lv_tableOut hc.1 hc.2.1 hd (by rw [zI_t ha]; exact h) ht (k p l e s m args below meth c H locs ls hc hl hh)
theorem zw_lookup {G : zG} {M : zMt} {Q : Option Value → zWd → Prop} {pc : Nat} {lv : List (Option Value)} {st : List Value} {w : zWd} {a dflt off : Int} {ps : Array (Int × Int)} {len : Nat} (tgt : Nat) (hd : decode (zm_cc M) pc = .ok (.lookupswitch dflt ps, len)) (hp : (ps.toList.zip (ps.toList.drop 1)).all (fun (a, next) => a.1 < next.1) = true) (ha : -2147483648 ≤ a ∧ a ≤ 2147483647) (ho : Op.lookupswitch.offset ps.toList dflt a = off) (ht : (pc : Int) + off = (tgt : Int)) (k : zW G M Q tgt lv st w) : zW G M Q pc lv (vi a :: st) w := by
  intro p l e s m args below meth c H locs ls hc hl hh
  exact lv_lookup hc.1 hc.2.1 hd hp (by rw [zI_t ha]; exact ho) ht (k p l e s m args below meth c H locs ls hc hl hh)
theorem zw_iret {G : zG} {M : zMt} {Q : Option Value → zWd → Prop} {pc : Nat} {lv : List (Option Value)} {st : List Value} {w : zWd} {a : Int} (hd : decode (zm_cc M) pc = .ok (.ireturn, 1)) (hr : zm_ret M = some .int) (hq : Q (some (vi a)) w) : zW G M Q pc lv [vi a] w := by
  intro p l e s m args below meth c H locs ls hc hl hh
  exact W.iret hc.1 hc.2.1 (hc.2.2.2.1.trans hr) (fun t ht hW => ⟨⟨_, w, rfl, hq, zAt_end hc hh ht hW⟩, hh.2.2.F ht⟩) hh.2.2.2.2 hd hc.2.2.2.2.1
theorem zw_zret {G : zG} {M : zMt} {Q : Option Value → zWd → Prop} {pc : Nat} {lv : List (Option Value)} {st : List Value} {w : zWd} {a : Int} (hd : decode (zm_cc M) pc = .ok (.ireturn, 1)) (hr : zm_ret M = some .boolean) (hn : a = 0 ∨ a = 1) (hq : Q (some (vi a)) w) : zW G M Q pc lv [vi a] w := by
  intro p l e s m args below meth c H locs ls hc hl hh
  exact W.zret hc.1 hc.2.1 (hc.2.2.2.1.trans hr) (by rcases hn with rfl | rfl <;> rfl) (fun t ht hW => ⟨⟨_, w, rfl, hq, zAt_end hc hh ht hW⟩, hh.2.2.F ht⟩) hh.2.2.2.2 hd hc.2.2.2.2.1
theorem zw_lret {G : zG} {M : zMt} {Q : Option Value → zWd → Prop} {pc : Nat} {lv : List (Option Value)} {st : List Value} {w : zWd} {a : Int} (hd : decode (zm_cc M) pc = .ok (.lreturn, 1)) (hr : zm_ret M = some .long) (hq : Q (some (vl a)) w) : zW G M Q pc lv [vl a] w := by
  intro p l e s m args below meth c H locs ls hc hl hh
  exact W.lret hc.1 hc.2.1 (hc.2.2.2.1.trans hr) (fun t ht hW => ⟨⟨_, w, rfl, hq, zAt_end hc hh ht hW⟩, hh.2.2.F ht⟩) hh.2.2.2.2 hd hc.2.2.2.2.1
theorem zw_aret {G : zG} {M : zMt} {Q : Option Value → zWd → Prop} {pc : Nat} {lv : List (Option Value)} {st : List Value} {w : zWd} {a : Nat} {rt : FieldType} (hd : decode (zm_cc M) pc = .ok (.areturn, 1)) (hr : zm_ret M = some rt) (hrt : (∃ n, rt = .object n) ∨ ∃ t, rt = .array t) (hq : Q (some (.ref a)) w) : zW G M Q pc lv [.ref a] w := by
  intro p l e s m args below meth c H locs ls hc hl hh
  exact W.aret hc.1 hc.2.1 (hc.2.2.2.1.trans hr) hrt (Or.inr ⟨_, rfl⟩) (fun t ht hW => ⟨⟨_, w, rfl, hq, zAt_end hc hh ht hW⟩, hh.2.2.F ht⟩) hh.2.2.2.2 hd hc.2.2.2.2.1
theorem zw_vret {G : zG} {M : zMt} {Q : Option Value → zWd → Prop} {pc : Nat} {lv : List (Option Value)} {st : List Value} {w : zWd} (hd : decode (zm_cc M) pc = .ok (.return_, 1)) (hr : zm_ret M = none) (hq : Q none w) : zW G M Q pc lv [] w := by
  intro p l e s m args below meth c H locs ls hc hl hh
  exact W.vret hc.1 hc.2.1 (hc.2.2.2.1.trans hr) (fun t ht hW => ⟨⟨_, w, rfl, hq, zAt_end hc hh ht hW⟩, hh.2.2.F ht⟩) hh.2.2.2.2 hd hc.2.2.2.2.1
