/-! ===== where the things of a ShadeGridModel lie, from its own address on ===== -/
def zm_k : List (Nat × Nat) := [(11, 0), (12, 700), (12, 4), (12, 4), (12, 4), (12, 4), (12, 768), (12, 64), (12, 4), (12, 1552), (12, 11640), (13, 34086), (13, 34086), (13, 17043), (13, 17043), (12, 2), (12, 2), (12, 6), (12, 194), (12, 192), (12, 192), (12, 192), (12, 204), (12, 384)]
def zm_r : List (Nat × Nat) := [(3, 1), (12, 2), (13, 3), (14, 4), (15, 5), (16, 6), (17, 7), (18, 8), (21, 9), (22, 10), (24, 11), (25, 12), (26, 13), (27, 14), (28, 15), (29, 16), (30, 17), (31, 18), (39, 19), (41, 20), (42, 21), (43, 22), (45, 23)]
def zmS (C : Nat) : zSh := (List.range' C 24, fun a => zm_k.getD (a - C) (99, 0), fun a k => if a = C then (zm_r.lookup k).map (fun b => C + b) else none)
theorem zm_o {C : Nat} (k c n : Nat) (h : zm_k[k]? = some (c, n)) : zo (zmS C) (C + k) c n := by
  have hk : k < 24 := (List.getElem?_eq_some_iff.mp h).1
  refine ⟨by simp [zmS]; omega, ?_⟩
  simp [zmS, List.getD, h]
theorem zm_o0 {C : Nat} : zo (zmS C) C 11 0 := zm_o (C := C) 0 11 0 rfl
theorem zm_f {C : Nat} (j b : Nat) (h : zm_r.lookup j = some b) : (zmS C).2.2 C j = some (C + b) := by
  show (if C = C then (zm_r.lookup j).map (fun b => C + b) else none) = some (C + b)
  rw [if_pos rfl, h]; rfl
