/-! ===== a point of any body: a constructor's, the law's ===== -/
/-- code, locals, room, what is known at the start, what is owed at the end -/
abbrev gX : Type := ByteArray × Nat × Room × (Program → Launch → State → MethodId → Array Value → Method → Code → Prop) × (List Frame → Array Value → State → State → Prop)
abbrev gxc (X : gX) : ByteArray := X.1
abbrev gxn (X : gX) : Nat := X.2.1
/-- what is known of the heap, what was written, cells and slots made -/
abbrev gH : Type := State → Heap → List Loc → Nat → Nat → Prop
def gV (X : gX) (Hh : gH) (pc : Nat) (lv : List (Option Value)) (st : List Value) : Prop :=
  ∀ (p : Program) (l : Launch) (e : Env) (s : State) (m : MethodId) (args : Array Value) (below : List Frame) (meth : Method) (c : Code) (H : Heap) (locs : List Loc) (ls : Array Slot) (cells slots : Nat),
    (p.tables.exec = Jvm.exec ∧ c.code = gxc X ∧ X.2.2.2.1 p l s m args meth c) → zl ls (gxn X) lv → Hh s H locs cells slots →
    W p l e X.2.2.1 s m args below meth c H locs cells slots (X.2.2.2.2 below args s) (F0 m pc ls st)
theorem gv_iconst {X : gX} {Hh : gH} {pc : Nat} {lv : List (Option Value)} {st : List Value} {n : Int} (q : Nat) (hq : pc + 1 = q) (hd : decode (gxc X) pc = .ok (.iconst n, 1)) (k : gV X Hh q lv (vi n :: st)) : gV X Hh pc lv (st) := by
  subst hq
  intro p l e s m args below meth c H locs ls cells slots hc hl hh
  have k := k p l e s m args below meth c H locs ls cells slots hc hl hh
  exact lv_iconst hc.1 hc.2.1 hd rfl k
theorem gv_bipush {X : gX} {Hh : gH} {pc : Nat} {lv : List (Option Value)} {st : List Value} {n : Int} (q : Nat) (hq : pc + 2 = q) (hd : decode (gxc X) pc = .ok (.bipush n, 2)) (hn : (Int8.ofInt n).toInt32 = zI n) (k : gV X Hh q lv (vi n :: st)) : gV X Hh pc lv (st) := by
  subst hq
  intro p l e s m args below meth c H locs ls cells slots hc hl hh
  have k := k p l e s m args below meth c H locs ls cells slots hc hl hh
  exact lv_bipush hc.1 hc.2.1 hd hn k
theorem gv_sipush {X : gX} {Hh : gH} {pc : Nat} {lv : List (Option Value)} {st : List Value} {n : Int} (q : Nat) (hq : pc + 3 = q) (hd : decode (gxc X) pc = .ok (.sipush n, 3)) (hn : (Int16.ofInt n).toInt32 = zI n) (k : gV X Hh q lv (vi n :: st)) : gV X Hh pc lv (st) := by
  subst hq
  intro p l e s m args below meth c H locs ls cells slots hc hl hh
  have k := k p l e s m args below meth c H locs ls cells slots hc hl hh
  exact lv_sipush hc.1 hc.2.1 hd hn k
theorem gv_lconst {X : gX} {Hh : gH} {pc : Nat} {lv : List (Option Value)} {st : List Value} {n : Fin 2} (q : Nat) (hq : pc + 1 = q) (hd : decode (gxc X) pc = .ok (.lconst n, 1)) (k : gV X Hh q lv (vl (n.val : Int) :: st)) : gV X Hh pc lv (st) := by
  subst hq
  intro p l e s m args below meth c H locs ls cells slots hc hl hh
  have k := k p l e s m args below meth c H locs ls cells slots hc hl hh
  exact lv_lconst hc.1 hc.2.1 hd (v := zL (n.val : Int)) (by rcases n with ⟨_ | _ | n, h⟩ <;> first | rfl | omega) k
theorem gv_iload_n {X : gX} {Hh : gH} {pc : Nat} {lv : List (Option Value)} {st : List Value} {n : Fin 4} {x : Int} (q : Nat) (hq : pc + 1 = q) (hd : decode (gxc X) pc = .ok (.iload_n n, 1)) (hv : lv[(n : Nat)]? = some (some (vi x))) (k : gV X Hh q lv (vi x :: st)) : gV X Hh pc lv (st) := by
  subst hq
  intro p l e s m args below meth c H locs ls cells slots hc hl hh
  have k := k p l e s m args below meth c H locs ls cells slots hc hl hh
  exact lv_iload_n hc.1 hc.2.1 hd rfl (hl.at hv) k
theorem gv_iload {X : gX} {Hh : gH} {pc : Nat} {lv : List (Option Value)} {st : List Value} {n : Nat} {x : Int} (q : Nat) (hq : pc + 2 = q) (hd : decode (gxc X) pc = .ok (.iload n, 2)) (hv : lv[n]? = some (some (vi x))) (k : gV X Hh q lv (vi x :: st)) : gV X Hh pc lv (st) := by
  subst hq
  intro p l e s m args below meth c H locs ls cells slots hc hl hh
  have k := k p l e s m args below meth c H locs ls cells slots hc hl hh
  exact lv_iload hc.1 hc.2.1 hd (hl.at hv) k
theorem gv_lload_n {X : gX} {Hh : gH} {pc : Nat} {lv : List (Option Value)} {st : List Value} {n : Fin 4} {x : Int} (q : Nat) (hq : pc + 1 = q) (hd : decode (gxc X) pc = .ok (.lload_n n, 1)) (hv : lv[(n : Nat)]? = some (some (vl x))) (k : gV X Hh q lv (vl x :: st)) : gV X Hh pc lv (st) := by
  subst hq
  intro p l e s m args below meth c H locs ls cells slots hc hl hh
  have k := k p l e s m args below meth c H locs ls cells slots hc hl hh
  exact lv_lload_n hc.1 hc.2.1 hd rfl (hl.at hv) k
theorem gv_lload {X : gX} {Hh : gH} {pc : Nat} {lv : List (Option Value)} {st : List Value} {n : Nat} {x : Int} (q : Nat) (hq : pc + 2 = q) (hd : decode (gxc X) pc = .ok (.lload n, 2)) (hv : lv[n]? = some (some (vl x))) (k : gV X Hh q lv (vl x :: st)) : gV X Hh pc lv (st) := by
  subst hq
  intro p l e s m args below meth c H locs ls cells slots hc hl hh
  have k := k p l e s m args below meth c H locs ls cells slots hc hl hh
  exact lv_lload hc.1 hc.2.1 hd (hl.at hv) k
theorem gv_aload_n {X : gX} {Hh : gH} {pc : Nat} {lv : List (Option Value)} {st : List Value} {n : Fin 4} {x : Nat} (q : Nat) (hq : pc + 1 = q) (hd : decode (gxc X) pc = .ok (.aload_n n, 1)) (hv : lv[(n : Nat)]? = some (some (.ref x))) (k : gV X Hh q lv (.ref x :: st)) : gV X Hh pc lv (st) := by
  subst hq
  intro p l e s m args below meth c H locs ls cells slots hc hl hh
  have k := k p l e s m args below meth c H locs ls cells slots hc hl hh
  exact lv_aload_n hc.1 hc.2.1 hd rfl (hl.at hv) k
theorem gv_aload {X : gX} {Hh : gH} {pc : Nat} {lv : List (Option Value)} {st : List Value} {n : Nat} {x : Nat} (q : Nat) (hq : pc + 2 = q) (hd : decode (gxc X) pc = .ok (.aload n, 2)) (hv : lv[n]? = some (some (.ref x))) (k : gV X Hh q lv (.ref x :: st)) : gV X Hh pc lv (st) := by
  subst hq
  intro p l e s m args below meth c H locs ls cells slots hc hl hh
  have k := k p l e s m args below meth c H locs ls cells slots hc hl hh
  exact lv_aload hc.1 hc.2.1 hd (hl.at hv) k
theorem gv_iadd {X : gX} {Hh : gH} {pc : Nat} {lv : List (Option Value)} {st : List Value} {a b : Int} (q : Nat) (hq : pc + 1 = q) (hd : decode (gxc X) pc = .ok (.iadd, 1)) (k : gV X Hh q lv (vi (a + b) :: st)) : gV X Hh pc lv (vi b :: vi a :: st) := by
  subst hq
  intro p l e s m args below meth c H locs ls cells slots hc hl hh
  have k := k p l e s m args below meth c H locs ls cells slots hc hl hh
  exact lv_iadd hc.1 hc.2.1 hd (by rw [zI_add]; exact k)
theorem gv_isub {X : gX} {Hh : gH} {pc : Nat} {lv : List (Option Value)} {st : List Value} {a b : Int} (q : Nat) (hq : pc + 1 = q) (hd : decode (gxc X) pc = .ok (.isub, 1)) (k : gV X Hh q lv (vi (a - b) :: st)) : gV X Hh pc lv (vi b :: vi a :: st) := by
  subst hq
  intro p l e s m args below meth c H locs ls cells slots hc hl hh
  have k := k p l e s m args below meth c H locs ls cells slots hc hl hh
  exact lv_isub hc.1 hc.2.1 hd (by rw [zI_sub]; exact k)
theorem gv_imul {X : gX} {Hh : gH} {pc : Nat} {lv : List (Option Value)} {st : List Value} {a b : Int} (q : Nat) (hq : pc + 1 = q) (hd : decode (gxc X) pc = .ok (.imul, 1)) (k : gV X Hh q lv (vi (a * b) :: st)) : gV X Hh pc lv (vi b :: vi a :: st) := by
  subst hq
  intro p l e s m args below meth c H locs ls cells slots hc hl hh
  have k := k p l e s m args below meth c H locs ls cells slots hc hl hh
  exact lv_imul hc.1 hc.2.1 hd (by rw [zI_mul]; exact k)
theorem gv_ladd {X : gX} {Hh : gH} {pc : Nat} {lv : List (Option Value)} {st : List Value} {a b : Int} (q : Nat) (hq : pc + 1 = q) (hd : decode (gxc X) pc = .ok (.ladd, 1)) (k : gV X Hh q lv (vl (a + b) :: st)) : gV X Hh pc lv (vl b :: vl a :: st) := by
  subst hq
  intro p l e s m args below meth c H locs ls cells slots hc hl hh
  have k := k p l e s m args below meth c H locs ls cells slots hc hl hh
  exact lv_ladd hc.1 hc.2.1 hd (by rw [zL_add]; exact k)
theorem gv_lsub {X : gX} {Hh : gH} {pc : Nat} {lv : List (Option Value)} {st : List Value} {a b : Int} (q : Nat) (hq : pc + 1 = q) (hd : decode (gxc X) pc = .ok (.lsub, 1)) (k : gV X Hh q lv (vl (a - b) :: st)) : gV X Hh pc lv (vl b :: vl a :: st) := by
  subst hq
  intro p l e s m args below meth c H locs ls cells slots hc hl hh
  have k := k p l e s m args below meth c H locs ls cells slots hc hl hh
  exact lv_lsub hc.1 hc.2.1 hd (by rw [zL_sub]; exact k)
theorem gv_lmul {X : gX} {Hh : gH} {pc : Nat} {lv : List (Option Value)} {st : List Value} {a b : Int} (q : Nat) (hq : pc + 1 = q) (hd : decode (gxc X) pc = .ok (.lmul, 1)) (k : gV X Hh q lv (vl (a * b) :: st)) : gV X Hh pc lv (vl b :: vl a :: st) := by
  subst hq
  intro p l e s m args below meth c H locs ls cells slots hc hl hh
  have k := k p l e s m args below meth c H locs ls cells slots hc hl hh
  exact lv_lmul hc.1 hc.2.1 hd (by rw [zL_mul]; exact k)
theorem gv_ineg {X : gX} {Hh : gH} {pc : Nat} {lv : List (Option Value)} {st : List Value} {a : Int} (q : Nat) (hq : pc + 1 = q) (hd : decode (gxc X) pc = .ok (.ineg, 1)) (k : gV X Hh q lv (vi (-a) :: st)) : gV X Hh pc lv (vi a :: st) := by
  subst hq
  intro p l e s m args below meth c H locs ls cells slots hc hl hh
  have k := k p l e s m args below meth c H locs ls cells slots hc hl hh
  exact lv_ineg hc.1 hc.2.1 hd (by rw [zI_neg]; exact k)
theorem gv_idiv {X : gX} {Hh : gH} {pc : Nat} {lv : List (Option Value)} {st : List Value} {a b : Int} (q : Nat) (hq : pc + 1 = q) (hd : decode (gxc X) pc = .ok (.idiv, 1)) (ha : 0 ≤ a ∧ a ≤ 2147483647) (hb : 0 < b ∧ b ≤ 2147483647) (k : gV X Hh q lv (vi (a / b) :: st)) : gV X Hh pc lv (vi b :: vi a :: st) := by
  subst hq
  intro p l e s m args below meth c H locs ls cells slots hc hl hh
  have k := k p l e s m args below meth c H locs ls cells slots hc hl hh
  exact lv_idiv hc.1 hc.2.1 hd (by intro h0; rw [zI_0, zI_eq (by omega) (by omega)] at h0; omega) (by rw [zI_div ha hb]; exact k)
theorem gv_irem {X : gX} {Hh : gH} {pc : Nat} {lv : List (Option Value)} {st : List Value} {a b : Int} (q : Nat) (hq : pc + 1 = q) (hd : decode (gxc X) pc = .ok (.irem, 1)) (ha : 0 ≤ a ∧ a ≤ 2147483647) (hb : 0 < b ∧ b ≤ 2147483647) (k : gV X Hh q lv (vi (a % b) :: st)) : gV X Hh pc lv (vi b :: vi a :: st) := by
  subst hq
  intro p l e s m args below meth c H locs ls cells slots hc hl hh
  have k := k p l e s m args below meth c H locs ls cells slots hc hl hh
  exact lv_irem hc.1 hc.2.1 hd (by intro h0; rw [zI_0, zI_eq (by omega) (by omega)] at h0; omega) (by rw [zI_rem ha hb]; exact k)
theorem gv_ldiv {X : gX} {Hh : gH} {pc : Nat} {lv : List (Option Value)} {st : List Value} {a b : Int} (q : Nat) (hq : pc + 1 = q) (hd : decode (gxc X) pc = .ok (.ldiv, 1)) (ha : 0 ≤ a ∧ a ≤ 9223372036854775807) (hb : 0 < b ∧ b ≤ 9223372036854775807) (k : gV X Hh q lv (vl (a / b) :: st)) : gV X Hh pc lv (vl b :: vl a :: st) := by
  subst hq
  intro p l e s m args below meth c H locs ls cells slots hc hl hh
  have k := k p l e s m args below meth c H locs ls cells slots hc hl hh
  exact lv_ldiv hc.1 hc.2.1 hd (by intro h0; rw [zL_0, zL_eq (by omega) (by omega)] at h0; omega) (by rw [zL_div ha hb]; exact k)
theorem gv_lrem {X : gX} {Hh : gH} {pc : Nat} {lv : List (Option Value)} {st : List Value} {a b : Int} (q : Nat) (hq : pc + 1 = q) (hd : decode (gxc X) pc = .ok (.lrem, 1)) (ha : 0 ≤ a ∧ a ≤ 9223372036854775807) (hb : 0 < b ∧ b ≤ 9223372036854775807) (k : gV X Hh q lv (vl (a % b) :: st)) : gV X Hh pc lv (vl b :: vl a :: st) := by
  subst hq
  intro p l e s m args below meth c H locs ls cells slots hc hl hh
  have k := k p l e s m args below meth c H locs ls cells slots hc hl hh
  exact lv_lrem hc.1 hc.2.1 hd (by intro h0; rw [zL_0, zL_eq (by omega) (by omega)] at h0; omega) (by rw [zL_rem ha hb]; exact k)
theorem gv_i2l {X : gX} {Hh : gH} {pc : Nat} {lv : List (Option Value)} {st : List Value} {a : Int} (q : Nat) (hq : pc + 1 = q) (hd : decode (gxc X) pc = .ok (.i2l, 1)) (ha : -2147483648 ≤ a ∧ a ≤ 2147483647) (k : gV X Hh q lv (vl a :: st)) : gV X Hh pc lv (vi a :: st) := by
  subst hq
  intro p l e s m args below meth c H locs ls cells slots hc hl hh
  have k := k p l e s m args below meth c H locs ls cells slots hc hl hh
  exact lv_i2l hc.1 hc.2.1 hd (zI_l ha) k
theorem gv_l2i {X : gX} {Hh : gH} {pc : Nat} {lv : List (Option Value)} {st : List Value} {a : Int} (q : Nat) (hq : pc + 1 = q) (hd : decode (gxc X) pc = .ok (.l2i, 1)) (k : gV X Hh q lv (vi a :: st)) : gV X Hh pc lv (vl a :: st) := by
  subst hq
  intro p l e s m args below meth c H locs ls cells slots hc hl hh
  have k := k p l e s m args below meth c H locs ls cells slots hc hl hh
  exact lv_l2i hc.1 hc.2.1 hd (zL_i a) k
theorem gv_iand {X : gX} {Hh : gH} {pc : Nat} {lv : List (Option Value)} {st : List Value} {a b : Int} (q : Nat) (hq : pc + 1 = q) (hd : decode (gxc X) pc = .ok (.iand, 1)) (k : gV X Hh q lv (vi (zI a &&& zI b).toInt :: st)) : gV X Hh pc lv (vi b :: vi a :: st) := by
  subst hq
  intro p l e s m args below meth c H locs ls cells slots hc hl hh
  have k := k p l e s m args below meth c H locs ls cells slots hc hl hh
  exact lv_iand hc.1 hc.2.1 hd (by rw [show (zI a &&& zI b) = zI (zI a &&& zI b).toInt from (zI_self _).symm]; exact k)
theorem gv_ior {X : gX} {Hh : gH} {pc : Nat} {lv : List (Option Value)} {st : List Value} {a b : Int} (q : Nat) (hq : pc + 1 = q) (hd : decode (gxc X) pc = .ok (.ior, 1)) (k : gV X Hh q lv (vi (zI a ||| zI b).toInt :: st)) : gV X Hh pc lv (vi b :: vi a :: st) := by
  subst hq
  intro p l e s m args below meth c H locs ls cells slots hc hl hh
  have k := k p l e s m args below meth c H locs ls cells slots hc hl hh
  exact lv_ior hc.1 hc.2.1 hd (by rw [show (zI a ||| zI b) = zI (zI a ||| zI b).toInt from (zI_self _).symm]; exact k)
theorem gv_ishl {X : gX} {Hh : gH} {pc : Nat} {lv : List (Option Value)} {st : List Value} {a b : Int} (q : Nat) (hq : pc + 1 = q) (hd : decode (gxc X) pc = .ok (.ishl, 1)) (k : gV X Hh q lv (vi (zI a <<< (zI b &&& 31)).toInt :: st)) : gV X Hh pc lv (vi b :: vi a :: st) := by
  subst hq
  intro p l e s m args below meth c H locs ls cells slots hc hl hh
  have k := k p l e s m args below meth c H locs ls cells slots hc hl hh
  exact lv_ishl hc.1 hc.2.1 hd (by rw [show (zI a <<< (zI b &&& 31)) = zI (zI a <<< (zI b &&& 31)).toInt from (zI_self _).symm]; exact k)
theorem gv_ishr {X : gX} {Hh : gH} {pc : Nat} {lv : List (Option Value)} {st : List Value} {a b : Int} (q : Nat) (hq : pc + 1 = q) (hd : decode (gxc X) pc = .ok (.ishr, 1)) (k : gV X Hh q lv (vi (zI a >>> (zI b &&& 31)).toInt :: st)) : gV X Hh pc lv (vi b :: vi a :: st) := by
  subst hq
  intro p l e s m args below meth c H locs ls cells slots hc hl hh
  have k := k p l e s m args below meth c H locs ls cells slots hc hl hh
  exact lv_ishr hc.1 hc.2.1 hd (by rw [show (zI a >>> (zI b &&& 31)) = zI (zI a >>> (zI b &&& 31)).toInt from (zI_self _).symm]; exact k)
theorem gv_iushr {X : gX} {Hh : gH} {pc : Nat} {lv : List (Option Value)} {st : List Value} {a b : Int} (q : Nat) (hq : pc + 1 = q) (hd : decode (gxc X) pc = .ok (.iushr, 1)) (k : gV X Hh q lv (vi ((zI a).toUInt32 >>> ((zI b).toUInt32 &&& Int32.toUInt32 31)).toInt32.toInt :: st)) : gV X Hh pc lv (vi b :: vi a :: st) := by
  subst hq
  intro p l e s m args below meth c H locs ls cells slots hc hl hh
  have k := k p l e s m args below meth c H locs ls cells slots hc hl hh
  exact lv_iushr hc.1 hc.2.1 hd (zI_self _).symm k
theorem gv_land {X : gX} {Hh : gH} {pc : Nat} {lv : List (Option Value)} {st : List Value} {a b : Int} (q : Nat) (hq : pc + 1 = q) (hd : decode (gxc X) pc = .ok (.land, 1)) (k : gV X Hh q lv (vl (zL a &&& zL b).toInt :: st)) : gV X Hh pc lv (vl b :: vl a :: st) := by
  subst hq
  intro p l e s m args below meth c H locs ls cells slots hc hl hh
  have k := k p l e s m args below meth c H locs ls cells slots hc hl hh
  exact lv_land hc.1 hc.2.1 hd (by rw [show (zL a &&& zL b) = zL (zL a &&& zL b).toInt from (zL_self _).symm]; exact k)
theorem gv_lor {X : gX} {Hh : gH} {pc : Nat} {lv : List (Option Value)} {st : List Value} {a b : Int} (q : Nat) (hq : pc + 1 = q) (hd : decode (gxc X) pc = .ok (.lor, 1)) (k : gV X Hh q lv (vl (zL a ||| zL b).toInt :: st)) : gV X Hh pc lv (vl b :: vl a :: st) := by
  subst hq
  intro p l e s m args below meth c H locs ls cells slots hc hl hh
  have k := k p l e s m args below meth c H locs ls cells slots hc hl hh
  exact lv_lor hc.1 hc.2.1 hd (by rw [show (zL a ||| zL b) = zL (zL a ||| zL b).toInt from (zL_self _).symm]; exact k)
theorem gv_lshl {X : gX} {Hh : gH} {pc : Nat} {lv : List (Option Value)} {st : List Value} {a b : Int} (q : Nat) (hq : pc + 1 = q) (hd : decode (gxc X) pc = .ok (.lshl, 1)) (k : gV X Hh q lv (vl (zL a <<< ((zI b).toInt64 &&& 63)).toInt :: st)) : gV X Hh pc lv (vi b :: vl a :: st) := by
  subst hq
  intro p l e s m args below meth c H locs ls cells slots hc hl hh
  have k := k p l e s m args below meth c H locs ls cells slots hc hl hh
  exact lv_lshl hc.1 hc.2.1 hd (zL_self _).symm k
theorem gv_lushr {X : gX} {Hh : gH} {pc : Nat} {lv : List (Option Value)} {st : List Value} {a b : Int} (q : Nat) (hq : pc + 1 = q) (hd : decode (gxc X) pc = .ok (.lushr, 1)) (k : gV X Hh q lv (vl (((zL a).toUInt64 >>> ((zI b).toInt64.toUInt64 &&& Int64.toUInt64 63)).toInt64).toInt :: st)) : gV X Hh pc lv (vi b :: vl a :: st) := by
  subst hq
  intro p l e s m args below meth c H locs ls cells slots hc hl hh
  have k := k p l e s m args below meth c H locs ls cells slots hc hl hh
  exact lv_lushr hc.1 hc.2.1 hd (zL_self _).symm k
theorem gv_lcmp {X : gX} {Hh : gH} {pc : Nat} {lv : List (Option Value)} {st : List Value} {a b : Int} (q : Nat) (hq : pc + 1 = q) (hd : decode (gxc X) pc = .ok (.lcmp, 1)) (ha : -9223372036854775808 ≤ a ∧ a ≤ 9223372036854775807) (hb : -9223372036854775808 ≤ b ∧ b ≤ 9223372036854775807) (k : gV X Hh q lv (vi (if a < b then -1 else if a = b then 0 else 1) :: st)) : gV X Hh pc lv (vl b :: vl a :: st) := by
  subst hq
  intro p l e s m args below meth c H locs ls cells slots hc hl hh
  have k := k p l e s m args below meth c H locs ls cells slots hc hl hh
  have e : lg_cmp (zL a) (zL b) = zI (if a < b then -1 else if a = b then 0 else 1) := by
    have h1 := zL_lt ha hb
    have h2 := zL_lt hb ha
    have h3 := zL_eq ha hb
    unfold lg_cmp
    by_cases x : a < b
    · rw [if_neg (fun h9 => by have := h2.mp h9; omega), if_neg (by rw [h3]; omega), if_pos x]; rfl
    · by_cases y : a = b
      · rw [if_neg (fun h9 => by have := h2.mp h9; omega), if_pos (by rw [h3]; exact y), if_neg x, if_pos y]; rfl
      · rw [if_pos (h2.mpr (by omega)), if_neg x, if_neg y]; rfl
  exact W.lcmp hc.1 hc.2.1 hd (by rw [e]; exact k)
theorem gv_dup {X : gX} {Hh : gH} {pc : Nat} {lv : List (Option Value)} {st : List Value} {x : Value} (q : Nat) (hq : pc + 1 = q) (hd : decode (gxc X) pc = .ok (.dup, 1)) (cx : x.category = 1) (k : gV X Hh q lv (x :: x :: st)) : gV X Hh pc lv (x :: st) := by
  subst hq
  intro p l e s m args below meth c H locs ls cells slots hc hl hh
  have k := k p l e s m args below meth c H locs ls cells slots hc hl hh
  exact lv_dup hc.1 hc.2.1 hd cx k
theorem gv_pop {X : gX} {Hh : gH} {pc : Nat} {lv : List (Option Value)} {st : List Value} {x : Value} (q : Nat) (hq : pc + 1 = q) (hd : decode (gxc X) pc = .ok (.pop, 1)) (cx : x.category = 1) (k : gV X Hh q lv (st)) : gV X Hh pc lv (x :: st) := by
  subst hq
  intro p l e s m args below meth c H locs ls cells slots hc hl hh
  have k := k p l e s m args below meth c H locs ls cells slots hc hl hh
  exact lv_pop hc.1 hc.2.1 hd cx k
theorem gv_dup_x1 {X : gX} {Hh : gH} {pc : Nat} {lv : List (Option Value)} {st : List Value} {x y : Value} (q : Nat) (hq : pc + 1 = q) (hd : decode (gxc X) pc = .ok (.dup_x1, 1)) (cx : x.category = 1) (cy : y.category = 1) (k : gV X Hh q lv (x :: y :: x :: st)) : gV X Hh pc lv (x :: y :: st) := by
  subst hq
  intro p l e s m args below meth c H locs ls cells slots hc hl hh
  have k := k p l e s m args below meth c H locs ls cells slots hc hl hh
  exact lv_dup_x1 hc.1 hc.2.1 hd cx cy k
theorem gv_dup_x2 {X : gX} {Hh : gH} {pc : Nat} {lv : List (Option Value)} {st : List Value} {x y z : Value} (q : Nat) (hq : pc + 1 = q) (hd : decode (gxc X) pc = .ok (.dup_x2, 1)) (cx : x.category = 1) (cy : y.category = 1) (cz : z.category = 1) (k : gV X Hh q lv (x :: y :: z :: x :: st)) : gV X Hh pc lv (x :: y :: z :: st) := by
  subst hq
  intro p l e s m args below meth c H locs ls cells slots hc hl hh
  have k := k p l e s m args below meth c H locs ls cells slots hc hl hh
  exact lv_dup_x2 hc.1 hc.2.1 hd cx cy cz k
theorem gv_dup2_11 {X : gX} {Hh : gH} {pc : Nat} {lv : List (Option Value)} {st : List Value} {x y : Value} (q : Nat) (hq : pc + 1 = q) (hd : decode (gxc X) pc = .ok (.dup2, 1)) (cx : x.category = 1) (cy : y.category = 1) (k : gV X Hh q lv (x :: y :: x :: y :: st)) : gV X Hh pc lv (x :: y :: st) := by
  subst hq
  intro p l e s m args below meth c H locs ls cells slots hc hl hh
  have k := k p l e s m args below meth c H locs ls cells slots hc hl hh
  exact lv_dup2_11 hc.1 hc.2.1 hd cx cy k
theorem gv_dup2_2 {X : gX} {Hh : gH} {pc : Nat} {lv : List (Option Value)} {st : List Value} {x : Value} (q : Nat) (hq : pc + 1 = q) (hd : decode (gxc X) pc = .ok (.dup2, 1)) (cx : x.category = 2) (k : gV X Hh q lv (x :: x :: st)) : gV X Hh pc lv (x :: st) := by
  subst hq
  intro p l e s m args below meth c H locs ls cells slots hc hl hh
  have k := k p l e s m args below meth c H locs ls cells slots hc hl hh
  exact lv_dup2_2 hc.1 hc.2.1 hd cx k
theorem gv_istore_n {X : gX} {Hh : gH} {pc : Nat} {lv : List (Option Value)} {st : List Value} {n : Fin 4} {x : Int} (q : Nat) (hq : pc + 1 = q) (hd : decode (gxc X) pc = .ok (.istore_n n, 1)) (hn : (n : Nat) < gxn X) (hv : zprev lv (n : Nat) = true) (k : gV X Hh q (lv.set (n : Nat) (some (vi x))) st) : gV X Hh pc lv (vi x :: st) := by
  subst hq
  intro p l e s m args below meth c H locs ls cells slots hc hl hh
  obtain ⟨l0, h1, h2⟩ := hl
  exact lv_istore_n hc.1 hc.2.1 hd rfl h1 hn rfl (fun ls hl => k p l e s m args below meth c H locs ls cells slots hc (zl_set1 (ls := ls) hv h2 hl) hh)
theorem gv_istore {X : gX} {Hh : gH} {pc : Nat} {lv : List (Option Value)} {st : List Value} {n : Nat} {x : Int} (q : Nat) (hq : pc + 2 = q) (hd : decode (gxc X) pc = .ok (.istore n, 2)) (hn : n < gxn X) (hv : zprev lv n = true) (k : gV X Hh q (lv.set n (some (vi x))) st) : gV X Hh pc lv (vi x :: st) := by
  subst hq
  intro p l e s m args below meth c H locs ls cells slots hc hl hh
  obtain ⟨l0, h1, h2⟩ := hl
  exact lv_istore hc.1 hc.2.1 hd h1 hn rfl (fun ls hl => k p l e s m args below meth c H locs ls cells slots hc (zl_set1 (ls := ls) hv h2 hl) hh)
theorem gv_lstore_n {X : gX} {Hh : gH} {pc : Nat} {lv : List (Option Value)} {st : List Value} {n : Fin 4} {x : Int} (q : Nat) (hq : pc + 1 = q) (hd : decode (gxc X) pc = .ok (.lstore_n n, 1)) (hn : (n : Nat) + 1 < gxn X) (hv : zprev lv (n : Nat) = true) (k : gV X Hh q ((lv.set (n : Nat) (some (vl x))).set ((n : Nat) + 1) none) st) : gV X Hh pc lv (vl x :: st) := by
  subst hq
  intro p l e s m args below meth c H locs ls cells slots hc hl hh
  obtain ⟨l0, h1, h2⟩ := hl
  exact lv_lstore_n hc.1 hc.2.1 hd rfl h1 hn rfl (fun ls hl => k p l e s m args below meth c H locs ls cells slots hc (zl_set2 (ls := ls) hv h2 hl) hh)
theorem gv_lstore {X : gX} {Hh : gH} {pc : Nat} {lv : List (Option Value)} {st : List Value} {n : Nat} {x : Int} (q : Nat) (hq : pc + 2 = q) (hd : decode (gxc X) pc = .ok (.lstore n, 2)) (hn : n + 1 < gxn X) (hv : zprev lv n = true) (k : gV X Hh q ((lv.set n (some (vl x))).set (n + 1) none) st) : gV X Hh pc lv (vl x :: st) := by
  subst hq
  intro p l e s m args below meth c H locs ls cells slots hc hl hh
  obtain ⟨l0, h1, h2⟩ := hl
  exact lv_lstore hc.1 hc.2.1 hd h1 hn rfl (fun ls hl => k p l e s m args below meth c H locs ls cells slots hc (zl_set2 (ls := ls) hv h2 hl) hh)
theorem gv_astore_n {X : gX} {Hh : gH} {pc : Nat} {lv : List (Option Value)} {st : List Value} {n : Fin 4} {x : Nat} (q : Nat) (hq : pc + 1 = q) (hd : decode (gxc X) pc = .ok (.astore_n n, 1)) (hn : (n : Nat) < gxn X) (hv : zprev lv (n : Nat) = true) (k : gV X Hh q (lv.set (n : Nat) (some (.ref x))) st) : gV X Hh pc lv (.ref x :: st) := by
  subst hq
  intro p l e s m args below meth c H locs ls cells slots hc hl hh
  obtain ⟨l0, h1, h2⟩ := hl
  exact lv_astore_n hc.1 hc.2.1 hd rfl h1 hn rfl (fun ls hl => k p l e s m args below meth c H locs ls cells slots hc (zl_set1 (ls := ls) hv h2 hl) hh)
theorem gv_astore {X : gX} {Hh : gH} {pc : Nat} {lv : List (Option Value)} {st : List Value} {n : Nat} {x : Nat} (q : Nat) (hq : pc + 2 = q) (hd : decode (gxc X) pc = .ok (.astore n, 2)) (hn : n < gxn X) (hv : zprev lv n = true) (k : gV X Hh q (lv.set n (some (.ref x))) st) : gV X Hh pc lv (.ref x :: st) := by
  subst hq
  intro p l e s m args below meth c H locs ls cells slots hc hl hh
  obtain ⟨l0, h1, h2⟩ := hl
  exact lv_astore hc.1 hc.2.1 hd h1 hn rfl (fun ls hl => k p l e s m args below meth c H locs ls cells slots hc (zl_set1 (ls := ls) hv h2 hl) hh)
theorem gv_iinc {X : gX} {Hh : gH} {pc : Nat} {lv : List (Option Value)} {st : List Value} {n : Nat} {i x : Int} (q : Nat) (hq : pc + 3 = q) (hd : decode (gxc X) pc = .ok (.iinc n i, 3)) (hn : n < gxn X) (hv : zprev lv n = true) (hx : lv[n]? = some (some (vi x))) (k : gV X Hh q (lv.set n (some (vi (x + i)))) st) : gV X Hh pc lv st := by
  subst hq
  intro p l e s m args below meth c H locs ls cells slots hc hl hh
  obtain ⟨l0, h1, h2⟩ := hl
  obtain ⟨k0, hk0⟩ := List.getElem?_of_mem (h2 n _ hx)
  exact lv_iinc hc.1 hc.2.1 hd h1 hk0 (v := zI (x + i)) (zI_add x i) hn rfl (fun ls hl => k p l e s m args below meth c H locs ls cells slots hc (zl_set1 (ls := ls) hv h2 hl) hh)
theorem gv_icmp_eq {X : gX} {Hh : gH} {pc : Nat} {lv : List (Option Value)} {st : List Value} {a b : Int} {off : Int} (tgt q : Nat) (hq : pc + 3 = q) (hd : decode (gxc X) pc = .ok (.if_icmp .eq off, 3)) (ht : (pc : Int) + off = (tgt : Int)) (ha : -2147483648 ≤ a ∧ a ≤ 2147483647) (hb : -2147483648 ≤ b ∧ b ≤ 2147483647) (kt : a = b → gV X Hh tgt lv st) (kf : ¬ a = b → gV X Hh q lv st) : gV X Hh pc lv (vi b :: vi a :: st) := by
  subst hq
  intro p l e' s m args below meth c H locs ls cells slots hc hl hh
  have e := zI_eq ha hb
  exact lv_icmp_eq hc.1 hc.2.1 hd ht (fun h => kt (e.mp h) p l e' s m args below meth c H locs ls cells slots hc hl hh) (fun h => kf ((not_congr e).mp h) p l e' s m args below meth c H locs ls cells slots hc hl hh)
theorem gv_icmp_ne {X : gX} {Hh : gH} {pc : Nat} {lv : List (Option Value)} {st : List Value} {a b : Int} {off : Int} (tgt q : Nat) (hq : pc + 3 = q) (hd : decode (gxc X) pc = .ok (.if_icmp .ne off, 3)) (ht : (pc : Int) + off = (tgt : Int)) (ha : -2147483648 ≤ a ∧ a ≤ 2147483647) (hb : -2147483648 ≤ b ∧ b ≤ 2147483647) (kt : ¬ a = b → gV X Hh tgt lv st) (kf : a = b → gV X Hh q lv st) : gV X Hh pc lv (vi b :: vi a :: st) := by
  subst hq
  intro p l e' s m args below meth c H locs ls cells slots hc hl hh
  have e := zI_eq ha hb
  exact lv_icmp_ne hc.1 hc.2.1 hd ht (fun h => kt ((not_congr e).mp h) p l e' s m args below meth c H locs ls cells slots hc hl hh) (fun h => kf (e.mp h) p l e' s m args below meth c H locs ls cells slots hc hl hh)
theorem gv_icmp_lt {X : gX} {Hh : gH} {pc : Nat} {lv : List (Option Value)} {st : List Value} {a b : Int} {off : Int} (tgt q : Nat) (hq : pc + 3 = q) (hd : decode (gxc X) pc = .ok (.if_icmp .lt off, 3)) (ht : (pc : Int) + off = (tgt : Int)) (ha : -2147483648 ≤ a ∧ a ≤ 2147483647) (hb : -2147483648 ≤ b ∧ b ≤ 2147483647) (kt : a < b → gV X Hh tgt lv st) (kf : ¬ a < b → gV X Hh q lv st) : gV X Hh pc lv (vi b :: vi a :: st) := by
  subst hq
  intro p l e' s m args below meth c H locs ls cells slots hc hl hh
  have e := zI_lt ha hb
  exact lv_icmp_lt hc.1 hc.2.1 hd ht (fun h => kt (e.mp h) p l e' s m args below meth c H locs ls cells slots hc hl hh) (fun h => kf ((not_congr e).mp h) p l e' s m args below meth c H locs ls cells slots hc hl hh)
theorem gv_icmp_ge {X : gX} {Hh : gH} {pc : Nat} {lv : List (Option Value)} {st : List Value} {a b : Int} {off : Int} (tgt q : Nat) (hq : pc + 3 = q) (hd : decode (gxc X) pc = .ok (.if_icmp .ge off, 3)) (ht : (pc : Int) + off = (tgt : Int)) (ha : -2147483648 ≤ a ∧ a ≤ 2147483647) (hb : -2147483648 ≤ b ∧ b ≤ 2147483647) (kt : b ≤ a → gV X Hh tgt lv st) (kf : ¬ b ≤ a → gV X Hh q lv st) : gV X Hh pc lv (vi b :: vi a :: st) := by
  subst hq
  intro p l e' s m args below meth c H locs ls cells slots hc hl hh
  have e := zI_le hb ha
  exact lv_icmp_ge hc.1 hc.2.1 hd ht (fun h => kt (e.mp h) p l e' s m args below meth c H locs ls cells slots hc hl hh) (fun h => kf ((not_congr e).mp h) p l e' s m args below meth c H locs ls cells slots hc hl hh)
theorem gv_icmp_gt {X : gX} {Hh : gH} {pc : Nat} {lv : List (Option Value)} {st : List Value} {a b : Int} {off : Int} (tgt q : Nat) (hq : pc + 3 = q) (hd : decode (gxc X) pc = .ok (.if_icmp .gt off, 3)) (ht : (pc : Int) + off = (tgt : Int)) (ha : -2147483648 ≤ a ∧ a ≤ 2147483647) (hb : -2147483648 ≤ b ∧ b ≤ 2147483647) (kt : b < a → gV X Hh tgt lv st) (kf : ¬ b < a → gV X Hh q lv st) : gV X Hh pc lv (vi b :: vi a :: st) := by
  subst hq
  intro p l e' s m args below meth c H locs ls cells slots hc hl hh
  have e := zI_lt hb ha
  exact lv_icmp_gt hc.1 hc.2.1 hd ht (fun h => kt (e.mp h) p l e' s m args below meth c H locs ls cells slots hc hl hh) (fun h => kf ((not_congr e).mp h) p l e' s m args below meth c H locs ls cells slots hc hl hh)
theorem gv_icmp_le {X : gX} {Hh : gH} {pc : Nat} {lv : List (Option Value)} {st : List Value} {a b : Int} {off : Int} (tgt q : Nat) (hq : pc + 3 = q) (hd : decode (gxc X) pc = .ok (.if_icmp .le off, 3)) (ht : (pc : Int) + off = (tgt : Int)) (ha : -2147483648 ≤ a ∧ a ≤ 2147483647) (hb : -2147483648 ≤ b ∧ b ≤ 2147483647) (kt : a ≤ b → gV X Hh tgt lv st) (kf : ¬ a ≤ b → gV X Hh q lv st) : gV X Hh pc lv (vi b :: vi a :: st) := by
  subst hq
  intro p l e' s m args below meth c H locs ls cells slots hc hl hh
  have e := zI_le ha hb
  exact lv_icmp_le hc.1 hc.2.1 hd ht (fun h => kt (e.mp h) p l e' s m args below meth c H locs ls cells slots hc hl hh) (fun h => kf ((not_congr e).mp h) p l e' s m args below meth c H locs ls cells slots hc hl hh)
theorem gv_if_eq {X : gX} {Hh : gH} {pc : Nat} {lv : List (Option Value)} {st : List Value} {a : Int} {off : Int} (tgt q : Nat) (hq : pc + 3 = q) (hd : decode (gxc X) pc = .ok (.ifCond .eq off, 3)) (ht : (pc : Int) + off = (tgt : Int)) (ha : -2147483648 ≤ a ∧ a ≤ 2147483647) (kt : a = 0 → gV X Hh tgt lv st) (kf : ¬ a = 0 → gV X Hh q lv st) : gV X Hh pc lv (vi a :: st) := by
  subst hq
  intro p l e' s m args below meth c H locs ls cells slots hc hl hh
  have e := zI_eq ha (by omega : -2147483648 ≤ (0:Int) ∧ (0:Int) ≤ 2147483647)
  exact lv_if_eq hc.1 hc.2.1 hd ht (fun h => kt (e.mp h) p l e' s m args below meth c H locs ls cells slots hc hl hh) (fun h => kf ((not_congr e).mp h) p l e' s m args below meth c H locs ls cells slots hc hl hh)
theorem gv_if_ne {X : gX} {Hh : gH} {pc : Nat} {lv : List (Option Value)} {st : List Value} {a : Int} {off : Int} (tgt q : Nat) (hq : pc + 3 = q) (hd : decode (gxc X) pc = .ok (.ifCond .ne off, 3)) (ht : (pc : Int) + off = (tgt : Int)) (ha : -2147483648 ≤ a ∧ a ≤ 2147483647) (kt : ¬ a = 0 → gV X Hh tgt lv st) (kf : a = 0 → gV X Hh q lv st) : gV X Hh pc lv (vi a :: st) := by
  subst hq
  intro p l e' s m args below meth c H locs ls cells slots hc hl hh
  have e := zI_eq ha (by omega : -2147483648 ≤ (0:Int) ∧ (0:Int) ≤ 2147483647)
  exact lv_if_ne hc.1 hc.2.1 hd ht (fun h => kt ((not_congr e).mp h) p l e' s m args below meth c H locs ls cells slots hc hl hh) (fun h => kf (e.mp h) p l e' s m args below meth c H locs ls cells slots hc hl hh)
theorem gv_if_lt {X : gX} {Hh : gH} {pc : Nat} {lv : List (Option Value)} {st : List Value} {a : Int} {off : Int} (tgt q : Nat) (hq : pc + 3 = q) (hd : decode (gxc X) pc = .ok (.ifCond .lt off, 3)) (ht : (pc : Int) + off = (tgt : Int)) (ha : -2147483648 ≤ a ∧ a ≤ 2147483647) (kt : a < 0 → gV X Hh tgt lv st) (kf : ¬ a < 0 → gV X Hh q lv st) : gV X Hh pc lv (vi a :: st) := by
  subst hq
  intro p l e' s m args below meth c H locs ls cells slots hc hl hh
  have e := zI_lt ha (by omega : -2147483648 ≤ (0:Int) ∧ (0:Int) ≤ 2147483647)
  exact lv_if_lt hc.1 hc.2.1 hd ht (fun h => kt (e.mp h) p l e' s m args below meth c H locs ls cells slots hc hl hh) (fun h => kf ((not_congr e).mp h) p l e' s m args below meth c H locs ls cells slots hc hl hh)
theorem gv_if_ge {X : gX} {Hh : gH} {pc : Nat} {lv : List (Option Value)} {st : List Value} {a : Int} {off : Int} (tgt q : Nat) (hq : pc + 3 = q) (hd : decode (gxc X) pc = .ok (.ifCond .ge off, 3)) (ht : (pc : Int) + off = (tgt : Int)) (ha : -2147483648 ≤ a ∧ a ≤ 2147483647) (kt : 0 ≤ a → gV X Hh tgt lv st) (kf : ¬ 0 ≤ a → gV X Hh q lv st) : gV X Hh pc lv (vi a :: st) := by
  subst hq
  intro p l e' s m args below meth c H locs ls cells slots hc hl hh
  have e := zI_le (by omega : -2147483648 ≤ (0:Int) ∧ (0:Int) ≤ 2147483647) ha
  exact lv_if_ge hc.1 hc.2.1 hd ht (fun h => kt (e.mp h) p l e' s m args below meth c H locs ls cells slots hc hl hh) (fun h => kf ((not_congr e).mp h) p l e' s m args below meth c H locs ls cells slots hc hl hh)
theorem gv_if_gt {X : gX} {Hh : gH} {pc : Nat} {lv : List (Option Value)} {st : List Value} {a : Int} {off : Int} (tgt q : Nat) (hq : pc + 3 = q) (hd : decode (gxc X) pc = .ok (.ifCond .gt off, 3)) (ht : (pc : Int) + off = (tgt : Int)) (ha : -2147483648 ≤ a ∧ a ≤ 2147483647) (kt : 0 < a → gV X Hh tgt lv st) (kf : ¬ 0 < a → gV X Hh q lv st) : gV X Hh pc lv (vi a :: st) := by
  subst hq
  intro p l e' s m args below meth c H locs ls cells slots hc hl hh
  have e := zI_lt (by omega : -2147483648 ≤ (0:Int) ∧ (0:Int) ≤ 2147483647) ha
  exact lv_if_gt hc.1 hc.2.1 hd ht (fun h => kt (e.mp h) p l e' s m args below meth c H locs ls cells slots hc hl hh) (fun h => kf ((not_congr e).mp h) p l e' s m args below meth c H locs ls cells slots hc hl hh)
theorem gv_if_le {X : gX} {Hh : gH} {pc : Nat} {lv : List (Option Value)} {st : List Value} {a : Int} {off : Int} (tgt q : Nat) (hq : pc + 3 = q) (hd : decode (gxc X) pc = .ok (.ifCond .le off, 3)) (ht : (pc : Int) + off = (tgt : Int)) (ha : -2147483648 ≤ a ∧ a ≤ 2147483647) (kt : a ≤ 0 → gV X Hh tgt lv st) (kf : ¬ a ≤ 0 → gV X Hh q lv st) : gV X Hh pc lv (vi a :: st) := by
  subst hq
  intro p l e' s m args below meth c H locs ls cells slots hc hl hh
  have e := zI_le ha (by omega : -2147483648 ≤ (0:Int) ∧ (0:Int) ≤ 2147483647)
  exact lv_if_le hc.1 hc.2.1 hd ht (fun h => kt (e.mp h) p l e' s m args below meth c H locs ls cells slots hc hl hh) (fun h => kf ((not_congr e).mp h) p l e' s m args below meth c H locs ls cells slots hc hl hh)
theorem gv_goto {X : gX} {Hh : gH} {pc : Nat} {lv : List (Option Value)} {st : List Value} {off : Int} (tgt : Nat) (hd : decode (gxc X) pc = .ok (.goto off, 3)) (ht : (pc : Int) + off = (tgt : Int)) (k : gV X Hh tgt lv st) : gV X Hh pc lv st := by
  intro p l e s m args below meth c H locs ls cells slots hc hl hh
  exact lv_goto hc.1 hc.2.1 hd ht (k p l e s m args below meth c H locs ls cells slots hc hl hh)
theorem gv_tableIn {X : gX} {Hh : gH} {pc : Nat} {lv : List (Option Value)} {st : List Value} {a dflt lo hi off : Int} {offs : Array Int} {len : Nat} (tgt : Nat) (hd : decode (gxc X) pc = .ok (.tableswitch dflt lo hi offs, len)) (ha : -2147483648 ≤ a ∧ a ≤ 2147483647) (h1 : ¬ a < lo) (h2 : ¬ hi < a) (ho : offs[(a - lo).toNat]? = some off) (ht : (pc : Int) + off = (tgt : Int)) (k : gV X Hh tgt lv st) : gV X Hh pc lv (vi a :: st) := by
  intro p l e s m args below meth c H locs ls cells slots hc hl hh
  exact lv_tableIn hc.1 hc.2.1 hd (by rw [zI_t ha]; exact h1) (by rw [zI_t ha]; exact h2) (by rw [zI_t ha]; exact ho) ht (k p l e s m args below meth c H locs ls cells slots hc hl hh)
theorem gv_tableOut {X : gX} {Hh : gH} {pc : Nat} {lv : List (Option Value)} {st : List Value} {a dflt lo hi : Int} {offs : Array Int} {len : Nat} (tgt : Nat) (hd : decode (gxc X) pc = .ok (.tableswitch dflt lo hi offs, len)) (ha : -2147483648 ≤ a ∧ a ≤ 2147483647) (h : a < lo ∨ hi < a) (ht : (pc : Int) + dflt = (tgt : Int)) (k : gV X Hh tgt lv st) : gV X Hh pc lv (vi a :: st) := by
  intro p l e s m args below meth c H locs ls cells slots hc hl hh
  exact lv_tableOut hc.1 hc.2.1 hd (by rw [zI_t ha]; exact h) ht (k p l e s m args below meth c H locs ls cells slots hc hl hh)
theorem gv_lookup {X : gX} {Hh : gH} {pc : Nat} {lv : List (Option Value)} {st : List Value} {a dflt off : Int} {ps : Array (Int × Int)} {len : Nat} (tgt : Nat) (hd : decode (gxc X) pc = .ok (.lookupswitch dflt ps, len)) (hp : (ps.toList.zip (ps.toList.drop 1)).all (fun (a, next) => a.1 < next.1) = true) (ha : -2147483648 ≤ a ∧ a ≤ 2147483647) (ho : Op.lookupswitch.offset ps.toList dflt a = off) (ht : (pc : Int) + off = (tgt : Int)) (k : gV X Hh tgt lv st) : gV X Hh pc lv (vi a :: st) := by
  intro p l e s m args below meth c H locs ls cells slots hc hl hh
  exact lv_lookup hc.1 hc.2.1 hd hp (by rw [zI_t ha]; exact ho) ht (k p l e s m args below meth c H locs ls cells slots hc hl hh)
