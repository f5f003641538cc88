/-! ===== the class's constructors ===== -/
def z0 : zSt := fun _ _ => 0
/-- which reference is written when: the object, what it then refers to -/
def zk_u : List (Nat × Nat) := [(0, 1), (2, 3), (0, 2), (4, 5), (0, 4), (6, 7), (6, 8), (9, 10), (7, 9), (11, 12), (7, 11), (13, 14), (7, 13), (15, 16), (7, 15), (17, 18), (7, 17), (19, 20), (7, 19), (21, 22), (7, 21), (23, 24), (7, 23), (25, 26), (7, 25), (27, 28), (7, 27), (0, 6), (29, 30), (0, 29), (31, 32), (33, 34), (33, 35), (31, 33), (36, 37), (32, 36), (38, 39), (32, 38), (40, 41), (32, 40), (42, 43), (32, 42), (0, 31), (44, 45), (44, 46), (0, 44), (48, 49), (47, 48), (50, 51), (47, 50), (47, 52), (47, 53), (47, 54), (0, 47), (55, 56), (0, 55), (58, 59), (57, 58), (60, 61), (57, 60), (57, 62), (57, 63), (57, 64), (0, 57), (65, 66), (0, 65), (67, 68), (67, 69), (67, 70), (0, 67), (71, 72), (0, 71), (0, 73), (74, 75), (1, 74), (76, 77), (1, 76), (78, 79), (1, 78), (80, 81), (1, 80), (82, 83), (1, 82), (84, 85), (1, 84)]
def zkR (t : Nat) : List (List Nat) := (zk_u.take t).foldl (fun R u => R.set u.1 (R.getD u.1 [] ++ [u.2])) (List.replicate 86 [])
def kS (B n t : Nat) : zSh := (List.range' B n, fun a => zx_k.getD (a - B) (99, 0), fun a k => if a < B then none else (((zkR t).getD (a - B) [])[k]?).map (fun b => B + b))
theorem zkR_s {t i b : Nat} (h : zk_u[t]? = some (i, b)) : zkR (t + 1) = (zkR t).set i ((zkR t).getD i [] ++ [b]) := by
  unfold zkR
  rw [List.take_succ, h]
  simp [List.foldl_append]
theorem zkR_l (t : Nat) : (zkR t).length = 86 := by
  unfold zkR
  have : ∀ (l : List (Nat × Nat)) (R : List (List Nat)), (l.foldl (fun R u => R.set u.1 (R.getD u.1 [] ++ [u.2])) R).length = R.length := by
    intro l
    induction l with
    | nil => intro R; rfl
    | cons a l ih => intro R; rw [List.foldl_cons, ih]; simp
  rw [this]; simp
theorem kS_o {B n t c m : Nat} (i : Nat) (hi : i < n) (h : zx_k[i]? = some (c, m)) : zo (kS B n t) (B + i) c m := by
  refine ⟨by simp [kS]; omega, ?_⟩
  simp [kS, List.getD, h]
theorem kS_f {B n t : Nat} (i j b : Nat) (h : ((zkR t).getD i [])[j]? = some b) : (kS B n t).2.2 (B + i) j = some (B + b) := by
  show (if B + i < B then none else (((zkR t).getD (B + i - B) [])[j]?).map (fun b => B + b)) = some (B + b)
  rw [if_neg (by omega), show B + i - B = i by omega, h]; rfl
theorem kS_push (B n t : Nat) : (((kS B n t).1 ++ [B + n], (kS B n t).2.1, (kS B n t).2.2) : zSh) = kS B (n + 1) t := by
  simp only [kS]
  rw [List.range'_concat]
  simp
theorem kS_k {B n t c m : Nat} (h : zx_k[n]? = some (c, m)) : (kS B n t).2.1 (B + n) = (c, m) := by simp [kS, List.getD, h]
theorem kS_none {B n t : Nat} (h : (zkR t).getD n [] = []) : (kS B n t).2.2 (B + n) = fun _ => none := by
  funext k
  show (if B + n < B then none else (((zkR t).getD (B + n - B) [])[k]?).map (fun b => B + b)) = none
  rw [if_neg (by omega), show B + n - B = n by omega, h]; rfl
theorem kS_put {B n t i b j : Nat} (h : zk_u[t]? = some (i, b)) (hi : i < 86) (hj : ((zkR t).getD i []).length = j) : (kS B n (t + 1)).2.2 = zq (kS B n t).2.2 (B + i) j (some (B + b)) := by
  funext a k
  show (if a < B then none else (((zkR (t + 1)).getD (a - B) [])[k]?).map (fun b => B + b)) = if a = B + i ∧ k = j then some (B + b) else if a < B then none else (((zkR t).getD (a - B) [])[k]?).map (fun b => B + b)
  by_cases ha : a < B
  · rw [if_pos ha, if_pos ha, if_neg (by omega)]
  · rw [if_neg ha, if_neg ha, zkR_s h]
    by_cases hai : a = B + i
    · subst hai
      rw [show B + i - B = i by omega]
      have e1 : ((zkR t).set i ((zkR t).getD i [] ++ [b])).getD i [] = (zkR t).getD i [] ++ [b] := by
        rw [List.getD_eq_getElem?_getD, List.getElem?_set]
        simp [zkR_l, hi]
      rw [e1]
      by_cases hk : k = j
      · subst hk
        rw [if_pos ⟨rfl, rfl⟩, ← hj]
        simp
      · rw [if_neg (fun h => hk h.2)]
        rcases Nat.lt_or_ge k j with h2 | h2
        · rw [List.getElem?_append_left (by omega)]
        · rw [List.getElem?_append_right (by omega), List.getElem?_eq_none (by rw [List.length_singleton]; omega), List.getElem?_eq_none (by omega)]
    · rw [if_neg (fun h => hai h.1)]
      have e2 : ((zkR t).set i ((zkR t).getD i [] ++ [b])).getD (a - B) [] = (zkR t).getD (a - B) [] := by
        rw [List.getD_eq_getElem?_getD, List.getElem?_set_ne (by omega), ← List.getD_eq_getElem?_getD]
      rw [e2]
theorem kS_last {B n t : Nat} (h : 0 < n) : ∃ x, x ∈ (kS B n t).1 ∧ x + 1 = B + n := ⟨B + n - 1, by simp [kS]; omega, by omega⟩
section KS
variable {G : zG} {M : zMt} {w' : zWd} {h mc ms n1 t n k : Nat} {pc : Nat} {lv : List (Option Value)} {st : List Value} {B : Nat}
theorem ks_new {idx ci N n0 : Nat} (q : Nat) (hq : pc + 3 = q) (n2 : Nat) (e2 : n1 + 1 = n2) (c2 : Nat) (e3 : n + 1 = c2) (k2 : Nat) (e4 : k + N = k2) (hd : decode (zm_cc M) pc = .ok (.new idx, 3)) (hk : zknew (zm_y M).cls idx ci N) (h12 : ci < 12) (hS : zx_k[n1]? = some (ci, n0)) (hr : (zkR t).getD n1 [] = []) (hm : c2 ≤ mc ∧ k2 ≤ ms) (kk : gV (kX G M w' h mc ms) (kH G (kS B n2 t, z0, z0) (B + n2) c2 k2) q lv (.ref (B + n1) :: st)) : gV (kX G M w' h mc ms) (kH G (kS B n1 t, z0, z0) (B + n1) n k) pc lv st := by
  subst e2; subst e3; subst e4
  refine kv_new q hq hd hk h12 (kS_k hS) (kS_none hr) rfl rfl hm ?_
  rw [kS_push]
  exact kk
theorem ks_newi {N : Nat} (q : Nat) (hq : pc + 2 = q) (n2 : Nat) (e2 : n1 + 1 = n2) (c2 : Nat) (e3 : n + 1 = c2) (k2 : Nat) (e4 : k + N = k2) (hd : decode (zm_cc M) pc = .ok (.newarray .int, 2)) (hN : N < 20000000) (hS : zx_k[n1]? = some (12, N)) (hm : c2 ≤ mc ∧ k2 ≤ ms) (kk : gV (kX G M w' h mc ms) (kH G (kS B n2 t, z0, z0) (B + n2) c2 k2) q lv (.ref (B + n1) :: st)) : gV (kX G M w' h mc ms) (kH G (kS B n1 t, z0, z0) (B + n1) n k) pc lv (vi (N : Int) :: st) := by
  subst e2; subst e3; subst e4
  refine kv_newi q hq hd hN (kS_k hS) rfl hm ?_
  rw [kS_push]
  exact kk
theorem ks_newl {N : Nat} (q : Nat) (hq : pc + 2 = q) (n2 : Nat) (e2 : n1 + 1 = n2) (c2 : Nat) (e3 : n + 1 = c2) (k2 : Nat) (e4 : k + N = k2) (hd : decode (zm_cc M) pc = .ok (.newarray .long, 2)) (hN : N < 20000000) (hS : zx_k[n1]? = some (13, N)) (hm : c2 ≤ mc ∧ k2 ≤ ms) (kk : gV (kX G M w' h mc ms) (kH G (kS B n2 t, z0, z0) (B + n2) c2 k2) q lv (.ref (B + n1) :: st)) : gV (kX G M w' h mc ms) (kH G (kS B n1 t, z0, z0) (B + n1) n k) pc lv (vi (N : Int) :: st) := by
  subst e2; subst e3; subst e4
  refine kv_newl q hq hd hN (kS_k hS) rfl hm ?_
  rw [kS_push]
  exact kk
theorem ks_newq {N idx : Nat} (q : Nat) (hq : pc + 3 = q) (n2 : Nat) (e2 : n1 + 1 = n2) (c2 : Nat) (e3 : n + 1 = c2) (k2 : Nat) (e4 : k + N = k2) (hd : decode (zm_cc M) pc = .ok (.anewarray idx, 3)) (hk : Cond.classLink (zm_y M).cls idx "ShadeGrid$Picture" ∈ zt_tbl) (hN : N < 20000000) (hS : zx_k[n1]? = some (14, N)) (hr : (zkR t).getD n1 [] = []) (hm : c2 ≤ mc ∧ k2 ≤ ms) (kk : gV (kX G M w' h mc ms) (kH G (kS B n2 t, z0, z0) (B + n2) c2 k2) q lv (.ref (B + n1) :: st)) : gV (kX G M w' h mc ms) (kH G (kS B n1 t, z0, z0) (B + n1) n k) pc lv (vi (N : Int) :: st) := by
  subst e2; subst e3; subst e4
  refine kv_newq q hq hd hk hN (kS_k hS) (kS_none hr) hm ?_
  rw [kS_push]
  exact kk
theorem ks_put {idx ci j n0 i b : Nat} (q : Nat) (hq : pc + 3 = q) (t2 : Nat) (e2 : t + 1 = t2) (hd : decode (zm_cc M) pc = .ok (.putfield idx, 3)) (hf : zff (zm_y M).cls idx ci j) (hi : i < n1) (ho : zx_k[i]? = some (ci, n0)) (hu : zk_u[t]? = some (i, b)) (hj : ((zkR t).getD i []).length = j) (kk : gV (kX G M w' h mc ms) (kH G (kS B n1 t2, z0, z0) (B + n1) n k) q lv st) : gV (kX G M w' h mc ms) (kH G (kS B n1 t, z0, z0) (B + n1) n k) pc lv (.ref (B + b) :: .ref (B + i) :: st) := by
  subst e2
  have h86 : i < 86 := (List.getElem?_eq_some_iff.mp ho).1
  exact kv_put (S := kS B n1 t) (ρ' := (kS B n1 (t + 1)).2.2) q hq hd hf (kS_o i hi ho) (kS_last (by omega)) (kS_put hu h86 hj) kk
theorem ks_aast {n0 m0 i b : Nat} {x : Int} (q : Nat) (hq : pc + 1 = q) (t2 : Nat) (e2 : t + 1 = t2) (hd : decode (zm_cc M) pc = .ok (.aastore, 1)) (hi : i < n1) (ho : zx_k[i]? = some (14, n0)) (hb : b < n1) (hv : zx_k[b]? = some (5, m0)) (hx : 0 ≤ x ∧ x < n0) (hx2 : x ≤ 2147483647) (hu : zk_u[t]? = some (i, b)) (hj : ((zkR t).getD i []).length = x.toNat) (kk : gV (kX G M w' h mc ms) (kH G (kS B n1 t2, z0, z0) (B + n1) n k) q lv st) : gV (kX G M w' h mc ms) (kH G (kS B n1 t, z0, z0) (B + n1) n k) pc lv (.ref (B + b) :: vi x :: .ref (B + i) :: st) := by
  subst e2
  have h86 : i < 86 := (List.getElem?_eq_some_iff.mp ho).1
  exact kv_aast (S := kS B n1 t) (ρ' := (kS B n1 (t + 1)).2.2) q hq hd (kS_o i hi ho) (kS_o b hb hv) hx hx2 (kS_last (by omega)) (kS_put hu h86 hj) kk
theorem ks_call {M' : zMt} {idx b mc' ms' : Nat} (q : Nat) (hq : pc + 3 = q) (n2 t2 c2 : Nat) (e3 : n + mc' = c2) (k2 : Nat) (e4 : k + ms' = k2) (e2 : n1 + mc' = n2) (hd : decode (zm_cc M) pc = .ok (.invokespecial idx, 3)) (hI : zm_I M') (hlk : zml (zm_y M).cls idx M') (hR : zm_fr M' + 1 ≤ zm_fr M ∧ 8 + (zm_nL M' + 11) + zm_lw M' ≤ zm_lw M) (hw : (st.map fun v => v.category).sum ≤ 8) (hm : c2 ≤ mc ∧ k2 ≤ ms) (hC : kC G M' [.ref b] (kS B n1 t, z0, z0) (B + n1) (kS B n2 t2, z0, z0) mc' ms') (kk : gV (kX G M w' h mc ms) (kH G (kS B n2 t2, z0, z0) (B + n2) c2 k2) q lv st) : gV (kX G M w' h mc ms) (kH G (kS B n1 t, z0, z0) (B + n1) n k) pc lv (.ref b :: st) := by
  subst e2; subst e3; subst e4
  refine kv_call q hq hd hI hlk hR hw hm hC ?_
  rw [Nat.add_assoc]
  exact kk
end KS
theorem K_X5 {G : zG} {B n t : Nat} (hG : ∀ q, B ≤ q → zgA G q) (i : Nat) (hi : i < n) (h1 : zx_k[i]? = some (5, 0)) (h2 : zk_u[t]? = some (i, n)) (h3 : n < 86) (h4 : (zkR t).getD i [] = []) (h5 : zx_k[n]? = some (12, 192)) : kC G M_X5_init [.ref (B + i)] (kS B n t, z0, z0) (B + n) (kS B (n + 1) (t + 1), z0, z0) 1 192 := by
  refine kC_of 0 rfl (Nat.le_of_ble_eq_true rfl) (fun q hq => hG q (by omega)) rfl ?_
  refine gv_aload_n 1 rfl dX5_init_0 rfl ?_
  refine kv_obj 4 rfl dX5_init_1 ob_X5_3 ⟨Nat.le_of_ble_eq_true rfl, Nat.le_of_ble_eq_true rfl⟩ ?_
  refine gv_aload_n 5 rfl dX5_init_4 rfl ?_
  refine gv_sipush 8 rfl dX5_init_5 rfl ?_
  refine ks_newi (N := 192) 10 rfl (n + 1) rfl 1 rfl 192 rfl dX5_init_8 (Nat.le_of_ble_eq_true rfl) h5 ⟨Nat.le_of_ble_eq_true rfl, Nat.le_of_ble_eq_true rfl⟩ ?_
  refine ks_put (i := i) (b := n) 13 rfl (t + 1) rfl dX5_init_10 ff_X5_9 (by omega) h1 h2 (by rw [h4]; rfl) ?_
  exact kv_ret dX5_init_13 rfl rfl (by omega) rfl (Nat.le_of_ble_eq_true rfl)
theorem K_X0_6 {G : zG} {B : Nat} (hG : ∀ q, B ≤ q → zgA G q) : kC G M_X0_init [.ref (B + 6)] (kS B 7 5, z0, z0) (B + 7) (kS B 29 27, z0, z0) 22 1970 := by
  refine kC_of 1 rfl (Nat.le_of_ble_eq_true rfl) (fun q hq => hG q (by omega)) rfl ?_
  refine gv_aload_n 1 rfl dX0_init_0 rfl ?_
  refine kv_obj 4 rfl dX0_init_1 ob_X0_3 ⟨Nat.le_of_ble_eq_true rfl, Nat.le_of_ble_eq_true rfl⟩ ?_
  refine gv_aload_n 5 rfl dX0_init_4 rfl ?_
  refine gv_bipush 7 rfl dX0_init_5 rfl ?_
  refine ks_newq (N := 10) 10 rfl 8 rfl 1 rfl 10 rfl dX0_init_7 an_X0_9 (Nat.le_of_ble_eq_true rfl) rfl (by decide +kernel) ⟨Nat.le_of_ble_eq_true rfl, Nat.le_of_ble_eq_true rfl⟩ ?_
  refine ks_put (i := 6) (b := 7) 13 rfl 6 rfl dX0_init_10 ff_X0_11 (Nat.le_of_ble_eq_true rfl) rfl rfl (by decide +kernel) ?_
  refine gv_aload_n 14 rfl dX0_init_13 rfl ?_
  refine gv_bipush 16 rfl dX0_init_14 rfl ?_
  refine ks_newi (N := 10) 18 rfl 9 rfl 2 rfl 20 rfl dX0_init_16 (Nat.le_of_ble_eq_true rfl) rfl ⟨Nat.le_of_ble_eq_true rfl, Nat.le_of_ble_eq_true rfl⟩ ?_
  refine ks_put (i := 6) (b := 8) 21 rfl 7 rfl dX0_init_18 ff_X0_17 (Nat.le_of_ble_eq_true rfl) rfl rfl (by decide +kernel) ?_
  refine gv_iconst 22 rfl dX0_init_21 ?_
  refine gv_istore_n 23 rfl dX0_init_22 (Nat.le_of_ble_eq_true rfl) rfl ?_
  refine gv_iload_n 24 rfl dX0_init_23 rfl ?_
  refine gv_bipush 26 rfl dX0_init_24 rfl ?_
  refine gv_icmp_ge 48 29 rfl dX0_init_26 rfl (by decide) (by decide) (fun h => absurd h (by decide)) (fun _ => ?_)
  refine gv_aload_n 30 rfl dX0_init_29 rfl ?_
  refine kv_getr 33 rfl dX0_init_30 fl_X0_11 (kS_o 6 (Nat.le_of_ble_eq_true rfl) rfl) (kS_f 6 0 7 (by decide +kernel)) ?_
  refine gv_iload_n 34 rfl dX0_init_33 rfl ?_
  refine ks_new 37 rfl 10 rfl 3 rfl 23 rfl dX0_init_34 nw_X0_9 (by decide) rfl (by decide +kernel) ⟨Nat.le_of_ble_eq_true rfl, Nat.le_of_ble_eq_true rfl⟩ ?_
  refine gv_dup 38 rfl dX0_init_37 rfl ?_
  refine ks_call 41 rfl 11 8 4 rfl 215 rfl rfl dX0_init_38 mI_X5_init mi_X0_21 ⟨Nat.le_of_ble_eq_true rfl, Nat.le_of_ble_eq_true rfl⟩ (Nat.le_of_ble_eq_true rfl) ⟨Nat.le_of_ble_eq_true rfl, Nat.le_of_ble_eq_true rfl⟩ (K_X5 hG 9 (Nat.le_of_ble_eq_true rfl) rfl rfl (Nat.le_of_ble_eq_true rfl) (by decide +kernel) (by decide +kernel)) ?_
  refine ks_aast (i := 7) (b := 9) 42 rfl 9 rfl dX0_init_41 (Nat.le_of_ble_eq_true rfl) rfl (Nat.le_of_ble_eq_true rfl) rfl ⟨by decide, by decide⟩ (by decide) rfl (by decide +kernel) ?_
  refine gv_iinc 45 rfl dX0_init_42 (Nat.le_of_ble_eq_true rfl) rfl rfl ?_
  refine gv_goto 23 dX0_init_45 rfl ?_
  refine gv_iload_n 24 rfl dX0_init_23 rfl ?_
  refine gv_bipush 26 rfl dX0_init_24 rfl ?_
  refine gv_icmp_ge 48 29 rfl dX0_init_26 rfl (by decide) (by decide) (fun h => absurd h (by decide)) (fun _ => ?_)
  refine gv_aload_n 30 rfl dX0_init_29 rfl ?_
  refine kv_getr 33 rfl dX0_init_30 fl_X0_11 (kS_o 6 (Nat.le_of_ble_eq_true rfl) rfl) (kS_f 6 0 7 (by decide +kernel)) ?_
  refine gv_iload_n 34 rfl dX0_init_33 rfl ?_
  refine ks_new 37 rfl 12 rfl 5 rfl 218 rfl dX0_init_34 nw_X0_9 (by decide) rfl (by decide +kernel) ⟨Nat.le_of_ble_eq_true rfl, Nat.le_of_ble_eq_true rfl⟩ ?_
  refine gv_dup 38 rfl dX0_init_37 rfl ?_
  refine ks_call 41 rfl 13 10 6 rfl 410 rfl rfl dX0_init_38 mI_X5_init mi_X0_21 ⟨Nat.le_of_ble_eq_true rfl, Nat.le_of_ble_eq_true rfl⟩ (Nat.le_of_ble_eq_true rfl) ⟨Nat.le_of_ble_eq_true rfl, Nat.le_of_ble_eq_true rfl⟩ (K_X5 hG 11 (Nat.le_of_ble_eq_true rfl) rfl rfl (Nat.le_of_ble_eq_true rfl) (by decide +kernel) (by decide +kernel)) ?_
  refine ks_aast (i := 7) (b := 11) 42 rfl 11 rfl dX0_init_41 (Nat.le_of_ble_eq_true rfl) rfl (Nat.le_of_ble_eq_true rfl) rfl ⟨by decide, by decide⟩ (by decide) rfl (by decide +kernel) ?_
  refine gv_iinc 45 rfl dX0_init_42 (Nat.le_of_ble_eq_true rfl) rfl rfl ?_
  refine gv_goto 23 dX0_init_45 rfl ?_
  refine gv_iload_n 24 rfl dX0_init_23 rfl ?_
  refine gv_bipush 26 rfl dX0_init_24 rfl ?_
  refine gv_icmp_ge 48 29 rfl dX0_init_26 rfl (by decide) (by decide) (fun h => absurd h (by decide)) (fun _ => ?_)
  refine gv_aload_n 30 rfl dX0_init_29 rfl ?_
  refine kv_getr 33 rfl dX0_init_30 fl_X0_11 (kS_o 6 (Nat.le_of_ble_eq_true rfl) rfl) (kS_f 6 0 7 (by decide +kernel)) ?_
  refine gv_iload_n 34 rfl dX0_init_33 rfl ?_
  refine ks_new 37 rfl 14 rfl 7 rfl 413 rfl dX0_init_34 nw_X0_9 (by decide) rfl (by decide +kernel) ⟨Nat.le_of_ble_eq_true rfl, Nat.le_of_ble_eq_true rfl⟩ ?_
  refine gv_dup 38 rfl dX0_init_37 rfl ?_
  refine ks_call 41 rfl 15 12 8 rfl 605 rfl rfl dX0_init_38 mI_X5_init mi_X0_21 ⟨Nat.le_of_ble_eq_true rfl, Nat.le_of_ble_eq_true rfl⟩ (Nat.le_of_ble_eq_true rfl) ⟨Nat.le_of_ble_eq_true rfl, Nat.le_of_ble_eq_true rfl⟩ (K_X5 hG 13 (Nat.le_of_ble_eq_true rfl) rfl rfl (Nat.le_of_ble_eq_true rfl) (by decide +kernel) (by decide +kernel)) ?_
  refine ks_aast (i := 7) (b := 13) 42 rfl 13 rfl dX0_init_41 (Nat.le_of_ble_eq_true rfl) rfl (Nat.le_of_ble_eq_true rfl) rfl ⟨by decide, by decide⟩ (by decide) rfl (by decide +kernel) ?_
  refine gv_iinc 45 rfl dX0_init_42 (Nat.le_of_ble_eq_true rfl) rfl rfl ?_
  refine gv_goto 23 dX0_init_45 rfl ?_
  refine gv_iload_n 24 rfl dX0_init_23 rfl ?_
  refine gv_bipush 26 rfl dX0_init_24 rfl ?_
  refine gv_icmp_ge 48 29 rfl dX0_init_26 rfl (by decide) (by decide) (fun h => absurd h (by decide)) (fun _ => ?_)
  refine gv_aload_n 30 rfl dX0_init_29 rfl ?_
  refine kv_getr 33 rfl dX0_init_30 fl_X0_11 (kS_o 6 (Nat.le_of_ble_eq_true rfl) rfl) (kS_f 6 0 7 (by decide +kernel)) ?_
  refine gv_iload_n 34 rfl dX0_init_33 rfl ?_
  refine ks_new 37 rfl 16 rfl 9 rfl 608 rfl dX0_init_34 nw_X0_9 (by decide) rfl (by decide +kernel) ⟨Nat.le_of_ble_eq_true rfl, Nat.le_of_ble_eq_true rfl⟩ ?_
  refine gv_dup 38 rfl dX0_init_37 rfl ?_
  refine ks_call 41 rfl 17 14 10 rfl 800 rfl rfl dX0_init_38 mI_X5_init mi_X0_21 ⟨Nat.le_of_ble_eq_true rfl, Nat.le_of_ble_eq_true rfl⟩ (Nat.le_of_ble_eq_true rfl) ⟨Nat.le_of_ble_eq_true rfl, Nat.le_of_ble_eq_true rfl⟩ (K_X5 hG 15 (Nat.le_of_ble_eq_true rfl) rfl rfl (Nat.le_of_ble_eq_true rfl) (by decide +kernel) (by decide +kernel)) ?_
  refine ks_aast (i := 7) (b := 15) 42 rfl 15 rfl dX0_init_41 (Nat.le_of_ble_eq_true rfl) rfl (Nat.le_of_ble_eq_true rfl) rfl ⟨by decide, by decide⟩ (by decide) rfl (by decide +kernel) ?_
  refine gv_iinc 45 rfl dX0_init_42 (Nat.le_of_ble_eq_true rfl) rfl rfl ?_
  refine gv_goto 23 dX0_init_45 rfl ?_
  refine gv_iload_n 24 rfl dX0_init_23 rfl ?_
  refine gv_bipush 26 rfl dX0_init_24 rfl ?_
  refine gv_icmp_ge 48 29 rfl dX0_init_26 rfl (by decide) (by decide) (fun h => absurd h (by decide)) (fun _ => ?_)
  refine gv_aload_n 30 rfl dX0_init_29 rfl ?_
  refine kv_getr 33 rfl dX0_init_30 fl_X0_11 (kS_o 6 (Nat.le_of_ble_eq_true rfl) rfl) (kS_f 6 0 7 (by decide +kernel)) ?_
  refine gv_iload_n 34 rfl dX0_init_33 rfl ?_
  refine ks_new 37 rfl 18 rfl 11 rfl 803 rfl dX0_init_34 nw_X0_9 (by decide) rfl (by decide +kernel) ⟨Nat.le_of_ble_eq_true rfl, Nat.le_of_ble_eq_true rfl⟩ ?_
  refine gv_dup 38 rfl dX0_init_37 rfl ?_
  refine ks_call 41 rfl 19 16 12 rfl 995 rfl rfl dX0_init_38 mI_X5_init mi_X0_21 ⟨Nat.le_of_ble_eq_true rfl, Nat.le_of_ble_eq_true rfl⟩ (Nat.le_of_ble_eq_true rfl) ⟨Nat.le_of_ble_eq_true rfl, Nat.le_of_ble_eq_true rfl⟩ (K_X5 hG 17 (Nat.le_of_ble_eq_true rfl) rfl rfl (Nat.le_of_ble_eq_true rfl) (by decide +kernel) (by decide +kernel)) ?_
  refine ks_aast (i := 7) (b := 17) 42 rfl 17 rfl dX0_init_41 (Nat.le_of_ble_eq_true rfl) rfl (Nat.le_of_ble_eq_true rfl) rfl ⟨by decide, by decide⟩ (by decide) rfl (by decide +kernel) ?_
  refine gv_iinc 45 rfl dX0_init_42 (Nat.le_of_ble_eq_true rfl) rfl rfl ?_
  refine gv_goto 23 dX0_init_45 rfl ?_
  refine gv_iload_n 24 rfl dX0_init_23 rfl ?_
  refine gv_bipush 26 rfl dX0_init_24 rfl ?_
  refine gv_icmp_ge 48 29 rfl dX0_init_26 rfl (by decide) (by decide) (fun h => absurd h (by decide)) (fun _ => ?_)
  refine gv_aload_n 30 rfl dX0_init_29 rfl ?_
  refine kv_getr 33 rfl dX0_init_30 fl_X0_11 (kS_o 6 (Nat.le_of_ble_eq_true rfl) rfl) (kS_f 6 0 7 (by decide +kernel)) ?_
  refine gv_iload_n 34 rfl dX0_init_33 rfl ?_
  refine ks_new 37 rfl 20 rfl 13 rfl 998 rfl dX0_init_34 nw_X0_9 (by decide) rfl (by decide +kernel) ⟨Nat.le_of_ble_eq_true rfl, Nat.le_of_ble_eq_true rfl⟩ ?_
  refine gv_dup 38 rfl dX0_init_37 rfl ?_
  refine ks_call 41 rfl 21 18 14 rfl 1190 rfl rfl dX0_init_38 mI_X5_init mi_X0_21 ⟨Nat.le_of_ble_eq_true rfl, Nat.le_of_ble_eq_true rfl⟩ (Nat.le_of_ble_eq_true rfl) ⟨Nat.le_of_ble_eq_true rfl, Nat.le_of_ble_eq_true rfl⟩ (K_X5 hG 19 (Nat.le_of_ble_eq_true rfl) rfl rfl (Nat.le_of_ble_eq_true rfl) (by decide +kernel) (by decide +kernel)) ?_
  refine ks_aast (i := 7) (b := 19) 42 rfl 19 rfl dX0_init_41 (Nat.le_of_ble_eq_true rfl) rfl (Nat.le_of_ble_eq_true rfl) rfl ⟨by decide, by decide⟩ (by decide) rfl (by decide +kernel) ?_
  refine gv_iinc 45 rfl dX0_init_42 (Nat.le_of_ble_eq_true rfl) rfl rfl ?_
  refine gv_goto 23 dX0_init_45 rfl ?_
  refine gv_iload_n 24 rfl dX0_init_23 rfl ?_
  refine gv_bipush 26 rfl dX0_init_24 rfl ?_
  refine gv_icmp_ge 48 29 rfl dX0_init_26 rfl (by decide) (by decide) (fun h => absurd h (by decide)) (fun _ => ?_)
  refine gv_aload_n 30 rfl dX0_init_29 rfl ?_
  refine kv_getr 33 rfl dX0_init_30 fl_X0_11 (kS_o 6 (Nat.le_of_ble_eq_true rfl) rfl) (kS_f 6 0 7 (by decide +kernel)) ?_
  refine gv_iload_n 34 rfl dX0_init_33 rfl ?_
  refine ks_new 37 rfl 22 rfl 15 rfl 1193 rfl dX0_init_34 nw_X0_9 (by decide) rfl (by decide +kernel) ⟨Nat.le_of_ble_eq_true rfl, Nat.le_of_ble_eq_true rfl⟩ ?_
  refine gv_dup 38 rfl dX0_init_37 rfl ?_
  refine ks_call 41 rfl 23 20 16 rfl 1385 rfl rfl dX0_init_38 mI_X5_init mi_X0_21 ⟨Nat.le_of_ble_eq_true rfl, Nat.le_of_ble_eq_true rfl⟩ (Nat.le_of_ble_eq_true rfl) ⟨Nat.le_of_ble_eq_true rfl, Nat.le_of_ble_eq_true rfl⟩ (K_X5 hG 21 (Nat.le_of_ble_eq_true rfl) rfl rfl (Nat.le_of_ble_eq_true rfl) (by decide +kernel) (by decide +kernel)) ?_
  refine ks_aast (i := 7) (b := 21) 42 rfl 21 rfl dX0_init_41 (Nat.le_of_ble_eq_true rfl) rfl (Nat.le_of_ble_eq_true rfl) rfl ⟨by decide, by decide⟩ (by decide) rfl (by decide +kernel) ?_
  refine gv_iinc 45 rfl dX0_init_42 (Nat.le_of_ble_eq_true rfl) rfl rfl ?_
  refine gv_goto 23 dX0_init_45 rfl ?_
  refine gv_iload_n 24 rfl dX0_init_23 rfl ?_
  refine gv_bipush 26 rfl dX0_init_24 rfl ?_
  refine gv_icmp_ge 48 29 rfl dX0_init_26 rfl (by decide) (by decide) (fun h => absurd h (by decide)) (fun _ => ?_)
  refine gv_aload_n 30 rfl dX0_init_29 rfl ?_
  refine kv_getr 33 rfl dX0_init_30 fl_X0_11 (kS_o 6 (Nat.le_of_ble_eq_true rfl) rfl) (kS_f 6 0 7 (by decide +kernel)) ?_
  refine gv_iload_n 34 rfl dX0_init_33 rfl ?_
  refine ks_new 37 rfl 24 rfl 17 rfl 1388 rfl dX0_init_34 nw_X0_9 (by decide) rfl (by decide +kernel) ⟨Nat.le_of_ble_eq_true rfl, Nat.le_of_ble_eq_true rfl⟩ ?_
  refine gv_dup 38 rfl dX0_init_37 rfl ?_
  refine ks_call 41 rfl 25 22 18 rfl 1580 rfl rfl dX0_init_38 mI_X5_init mi_X0_21 ⟨Nat.le_of_ble_eq_true rfl, Nat.le_of_ble_eq_true rfl⟩ (Nat.le_of_ble_eq_true rfl) ⟨Nat.le_of_ble_eq_true rfl, Nat.le_of_ble_eq_true rfl⟩ (K_X5 hG 23 (Nat.le_of_ble_eq_true rfl) rfl rfl (Nat.le_of_ble_eq_true rfl) (by decide +kernel) (by decide +kernel)) ?_
  refine ks_aast (i := 7) (b := 23) 42 rfl 23 rfl dX0_init_41 (Nat.le_of_ble_eq_true rfl) rfl (Nat.le_of_ble_eq_true rfl) rfl ⟨by decide, by decide⟩ (by decide) rfl (by decide +kernel) ?_
  refine gv_iinc 45 rfl dX0_init_42 (Nat.le_of_ble_eq_true rfl) rfl rfl ?_
  refine gv_goto 23 dX0_init_45 rfl ?_
  refine gv_iload_n 24 rfl dX0_init_23 rfl ?_
  refine gv_bipush 26 rfl dX0_init_24 rfl ?_
  refine gv_icmp_ge 48 29 rfl dX0_init_26 rfl (by decide) (by decide) (fun h => absurd h (by decide)) (fun _ => ?_)
  refine gv_aload_n 30 rfl dX0_init_29 rfl ?_
  refine kv_getr 33 rfl dX0_init_30 fl_X0_11 (kS_o 6 (Nat.le_of_ble_eq_true rfl) rfl) (kS_f 6 0 7 (by decide +kernel)) ?_
  refine gv_iload_n 34 rfl dX0_init_33 rfl ?_
  refine ks_new 37 rfl 26 rfl 19 rfl 1583 rfl dX0_init_34 nw_X0_9 (by decide) rfl (by decide +kernel) ⟨Nat.le_of_ble_eq_true rfl, Nat.le_of_ble_eq_true rfl⟩ ?_
  refine gv_dup 38 rfl dX0_init_37 rfl ?_
  refine ks_call 41 rfl 27 24 20 rfl 1775 rfl rfl dX0_init_38 mI_X5_init mi_X0_21 ⟨Nat.le_of_ble_eq_true rfl, Nat.le_of_ble_eq_true rfl⟩ (Nat.le_of_ble_eq_true rfl) ⟨Nat.le_of_ble_eq_true rfl, Nat.le_of_ble_eq_true rfl⟩ (K_X5 hG 25 (Nat.le_of_ble_eq_true rfl) rfl rfl (Nat.le_of_ble_eq_true rfl) (by decide +kernel) (by decide +kernel)) ?_
  refine ks_aast (i := 7) (b := 25) 42 rfl 25 rfl dX0_init_41 (Nat.le_of_ble_eq_true rfl) rfl (Nat.le_of_ble_eq_true rfl) rfl ⟨by decide, by decide⟩ (by decide) rfl (by decide +kernel) ?_
  refine gv_iinc 45 rfl dX0_init_42 (Nat.le_of_ble_eq_true rfl) rfl rfl ?_
  refine gv_goto 23 dX0_init_45 rfl ?_
  refine gv_iload_n 24 rfl dX0_init_23 rfl ?_
  refine gv_bipush 26 rfl dX0_init_24 rfl ?_
  refine gv_icmp_ge 48 29 rfl dX0_init_26 rfl (by decide) (by decide) (fun h => absurd h (by decide)) (fun _ => ?_)
  refine gv_aload_n 30 rfl dX0_init_29 rfl ?_
  refine kv_getr 33 rfl dX0_init_30 fl_X0_11 (kS_o 6 (Nat.le_of_ble_eq_true rfl) rfl) (kS_f 6 0 7 (by decide +kernel)) ?_
  refine gv_iload_n 34 rfl dX0_init_33 rfl ?_
  refine ks_new 37 rfl 28 rfl 21 rfl 1778 rfl dX0_init_34 nw_X0_9 (by decide) rfl (by decide +kernel) ⟨Nat.le_of_ble_eq_true rfl, Nat.le_of_ble_eq_true rfl⟩ ?_
  refine gv_dup 38 rfl dX0_init_37 rfl ?_
  refine ks_call 41 rfl 29 26 22 rfl 1970 rfl rfl dX0_init_38 mI_X5_init mi_X0_21 ⟨Nat.le_of_ble_eq_true rfl, Nat.le_of_ble_eq_true rfl⟩ (Nat.le_of_ble_eq_true rfl) ⟨Nat.le_of_ble_eq_true rfl, Nat.le_of_ble_eq_true rfl⟩ (K_X5 hG 27 (Nat.le_of_ble_eq_true rfl) rfl rfl (Nat.le_of_ble_eq_true rfl) (by decide +kernel) (by decide +kernel)) ?_
  refine ks_aast (i := 7) (b := 27) 42 rfl 27 rfl dX0_init_41 (Nat.le_of_ble_eq_true rfl) rfl (Nat.le_of_ble_eq_true rfl) rfl ⟨by decide, by decide⟩ (by decide) rfl (by decide +kernel) ?_
  refine gv_iinc 45 rfl dX0_init_42 (Nat.le_of_ble_eq_true rfl) rfl rfl ?_
  refine gv_goto 23 dX0_init_45 rfl ?_
  refine gv_iload_n 24 rfl dX0_init_23 rfl ?_
  refine gv_bipush 26 rfl dX0_init_24 rfl ?_
  refine gv_icmp_ge 48 29 rfl dX0_init_26 rfl (by decide) (by decide) (fun _ => ?_) (fun h => absurd (by decide) h)
  exact kv_ret dX0_init_48 rfl rfl (by omega) rfl (Nat.le_of_ble_eq_true rfl)
theorem K_X8_29 {G : zG} {B : Nat} (hG : ∀ q, B ≤ q → zgA G q) : kC G M_X8_init [.ref (B + 29)] (kS B 30 28, z0, z0) (B + 30) (kS B 31 29, z0, z0) 1 700 := by
  refine kC_of 0 rfl (Nat.le_of_ble_eq_true rfl) (fun q hq => hG q (by omega)) rfl ?_
  refine gv_aload_n 1 rfl dX8_init_0 rfl ?_
  refine kv_obj 4 rfl dX8_init_1 ob_X8_3 ⟨Nat.le_of_ble_eq_true rfl, Nat.le_of_ble_eq_true rfl⟩ ?_
  refine gv_aload_n 5 rfl dX8_init_4 rfl ?_
  refine gv_sipush 8 rfl dX8_init_5 rfl ?_
  refine ks_newi (N := 700) 10 rfl 31 rfl 1 rfl 700 rfl dX8_init_8 (Nat.le_of_ble_eq_true rfl) rfl ⟨Nat.le_of_ble_eq_true rfl, Nat.le_of_ble_eq_true rfl⟩ ?_
  refine ks_put (i := 29) (b := 30) 13 rfl 29 rfl dX8_init_10 ff_X8_9 (Nat.le_of_ble_eq_true rfl) rfl rfl (by decide +kernel) ?_
  exact kv_ret dX8_init_13 rfl rfl (by omega) rfl (Nat.le_of_ble_eq_true rfl)
theorem K_X2_33 {G : zG} {B : Nat} (hG : ∀ q, B ≤ q → zgA G q) : kC G M_X2_init [.ref (B + 33)] (kS B 34 31, z0, z0) (B + 34) (kS B 36 33, z0, z0) 2 68 := by
  refine kC_of 0 rfl (Nat.le_of_ble_eq_true rfl) (fun q hq => hG q (by omega)) rfl ?_
  refine gv_aload_n 1 rfl dX2_init_0 rfl ?_
  refine kv_obj 4 rfl dX2_init_1 ob_X2_3 ⟨Nat.le_of_ble_eq_true rfl, Nat.le_of_ble_eq_true rfl⟩ ?_
  refine gv_aload_n 5 rfl dX2_init_4 rfl ?_
  refine gv_bipush 7 rfl dX2_init_5 rfl ?_
  refine ks_newi (N := 64) 9 rfl 35 rfl 1 rfl 64 rfl dX2_init_7 (Nat.le_of_ble_eq_true rfl) rfl ⟨Nat.le_of_ble_eq_true rfl, Nat.le_of_ble_eq_true rfl⟩ ?_
  refine ks_put (i := 33) (b := 34) 12 rfl 32 rfl dX2_init_9 ff_X2_9 (Nat.le_of_ble_eq_true rfl) rfl rfl (by decide +kernel) ?_
  refine gv_aload_n 13 rfl dX2_init_12 rfl ?_
  refine gv_iconst 14 rfl dX2_init_13 ?_
  refine ks_newi (N := 4) 16 rfl 36 rfl 2 rfl 68 rfl dX2_init_14 (Nat.le_of_ble_eq_true rfl) rfl ⟨Nat.le_of_ble_eq_true rfl, Nat.le_of_ble_eq_true rfl⟩ ?_
  refine ks_put (i := 33) (b := 35) 19 rfl 33 rfl dX2_init_16 ff_X2_15 (Nat.le_of_ble_eq_true rfl) rfl rfl (by decide +kernel) ?_
  exact kv_ret dX2_init_19 rfl rfl (by omega) rfl (Nat.le_of_ble_eq_true rfl)
theorem K_X9_31 {G : zG} {B : Nat} (hG : ∀ q, B ≤ q → zgA G q) : kC G M_X9_init [.ref (B + 31)] (kS B 32 30, z0, z0) (B + 32) (kS B 44 42, z0, z0) 12 855 := by
  refine kC_of 1 rfl (Nat.le_of_ble_eq_true rfl) (fun q hq => hG q (by omega)) rfl ?_
  refine gv_aload_n 1 rfl dX9_init_0 rfl ?_
  refine kv_obj 4 rfl dX9_init_1 ob_X9_3 ⟨Nat.le_of_ble_eq_true rfl, Nat.le_of_ble_eq_true rfl⟩ ?_
  refine gv_aload_n 5 rfl dX9_init_4 rfl ?_
  refine gv_iconst 6 rfl dX9_init_5 ?_
  refine ks_newq (N := 4) 9 rfl 33 rfl 1 rfl 4 rfl dX9_init_6 an_X9_9 (Nat.le_of_ble_eq_true rfl) rfl (by decide +kernel) ⟨Nat.le_of_ble_eq_true rfl, Nat.le_of_ble_eq_true rfl⟩ ?_
  refine ks_put (i := 31) (b := 32) 12 rfl 31 rfl dX9_init_9 ff_X9_11 (Nat.le_of_ble_eq_true rfl) rfl rfl (by decide +kernel) ?_
  refine gv_aload_n 13 rfl dX9_init_12 rfl ?_
  refine ks_new 16 rfl 34 rfl 2 rfl 7 rfl dX9_init_13 nw_X9_17 (by decide) rfl (by decide +kernel) ⟨Nat.le_of_ble_eq_true rfl, Nat.le_of_ble_eq_true rfl⟩ ?_
  refine gv_dup 17 rfl dX9_init_16 rfl ?_
  refine ks_call 20 rfl 36 33 4 rfl 75 rfl rfl dX9_init_17 mI_X2_init mi_X9_19 ⟨Nat.le_of_ble_eq_true rfl, Nat.le_of_ble_eq_true rfl⟩ (Nat.le_of_ble_eq_true rfl) ⟨Nat.le_of_ble_eq_true rfl, Nat.le_of_ble_eq_true rfl⟩ (K_X2_33 hG) ?_
  refine ks_put (i := 31) (b := 33) 23 rfl 34 rfl dX9_init_20 ff_X9_20 (Nat.le_of_ble_eq_true rfl) rfl rfl (by decide +kernel) ?_
  refine gv_iconst 24 rfl dX9_init_23 ?_
  refine gv_istore_n 25 rfl dX9_init_24 (Nat.le_of_ble_eq_true rfl) rfl ?_
  refine gv_iload_n 26 rfl dX9_init_25 rfl ?_
  refine gv_iconst 27 rfl dX9_init_26 ?_
  refine gv_icmp_ge 49 30 rfl dX9_init_27 rfl (by decide) (by decide) (fun h => absurd h (by decide)) (fun _ => ?_)
  refine gv_aload_n 31 rfl dX9_init_30 rfl ?_
  refine kv_getr 34 rfl dX9_init_31 fl_X9_11 (kS_o 31 (Nat.le_of_ble_eq_true rfl) rfl) (kS_f 31 0 32 (by decide +kernel)) ?_
  refine gv_iload_n 35 rfl dX9_init_34 rfl ?_
  refine ks_new 38 rfl 37 rfl 5 rfl 78 rfl dX9_init_35 nw_X9_9 (by decide) rfl (by decide +kernel) ⟨Nat.le_of_ble_eq_true rfl, Nat.le_of_ble_eq_true rfl⟩ ?_
  refine gv_dup 39 rfl dX9_init_38 rfl ?_
  refine ks_call 42 rfl 38 35 6 rfl 270 rfl rfl dX9_init_39 mI_X5_init mi_X9_24 ⟨Nat.le_of_ble_eq_true rfl, Nat.le_of_ble_eq_true rfl⟩ (Nat.le_of_ble_eq_true rfl) ⟨Nat.le_of_ble_eq_true rfl, Nat.le_of_ble_eq_true rfl⟩ (K_X5 hG 36 (Nat.le_of_ble_eq_true rfl) rfl rfl (Nat.le_of_ble_eq_true rfl) (by decide +kernel) (by decide +kernel)) ?_
  refine ks_aast (i := 32) (b := 36) 43 rfl 36 rfl dX9_init_42 (Nat.le_of_ble_eq_true rfl) rfl (Nat.le_of_ble_eq_true rfl) rfl ⟨by decide, by decide⟩ (by decide) rfl (by decide +kernel) ?_
  refine gv_iinc 46 rfl dX9_init_43 (Nat.le_of_ble_eq_true rfl) rfl rfl ?_
  refine gv_goto 25 dX9_init_46 rfl ?_
  refine gv_iload_n 26 rfl dX9_init_25 rfl ?_
  refine gv_iconst 27 rfl dX9_init_26 ?_
  refine gv_icmp_ge 49 30 rfl dX9_init_27 rfl (by decide) (by decide) (fun h => absurd h (by decide)) (fun _ => ?_)
  refine gv_aload_n 31 rfl dX9_init_30 rfl ?_
  refine kv_getr 34 rfl dX9_init_31 fl_X9_11 (kS_o 31 (Nat.le_of_ble_eq_true rfl) rfl) (kS_f 31 0 32 (by decide +kernel)) ?_
  refine gv_iload_n 35 rfl dX9_init_34 rfl ?_
  refine ks_new 38 rfl 39 rfl 7 rfl 273 rfl dX9_init_35 nw_X9_9 (by decide) rfl (by decide +kernel) ⟨Nat.le_of_ble_eq_true rfl, Nat.le_of_ble_eq_true rfl⟩ ?_
  refine gv_dup 39 rfl dX9_init_38 rfl ?_
  refine ks_call 42 rfl 40 37 8 rfl 465 rfl rfl dX9_init_39 mI_X5_init mi_X9_24 ⟨Nat.le_of_ble_eq_true rfl, Nat.le_of_ble_eq_true rfl⟩ (Nat.le_of_ble_eq_true rfl) ⟨Nat.le_of_ble_eq_true rfl, Nat.le_of_ble_eq_true rfl⟩ (K_X5 hG 38 (Nat.le_of_ble_eq_true rfl) rfl rfl (Nat.le_of_ble_eq_true rfl) (by decide +kernel) (by decide +kernel)) ?_
  refine ks_aast (i := 32) (b := 38) 43 rfl 38 rfl dX9_init_42 (Nat.le_of_ble_eq_true rfl) rfl (Nat.le_of_ble_eq_true rfl) rfl ⟨by decide, by decide⟩ (by decide) rfl (by decide +kernel) ?_
  refine gv_iinc 46 rfl dX9_init_43 (Nat.le_of_ble_eq_true rfl) rfl rfl ?_
  refine gv_goto 25 dX9_init_46 rfl ?_
  refine gv_iload_n 26 rfl dX9_init_25 rfl ?_
  refine gv_iconst 27 rfl dX9_init_26 ?_
  refine gv_icmp_ge 49 30 rfl dX9_init_27 rfl (by decide) (by decide) (fun h => absurd h (by decide)) (fun _ => ?_)
  refine gv_aload_n 31 rfl dX9_init_30 rfl ?_
  refine kv_getr 34 rfl dX9_init_31 fl_X9_11 (kS_o 31 (Nat.le_of_ble_eq_true rfl) rfl) (kS_f 31 0 32 (by decide +kernel)) ?_
  refine gv_iload_n 35 rfl dX9_init_34 rfl ?_
  refine ks_new 38 rfl 41 rfl 9 rfl 468 rfl dX9_init_35 nw_X9_9 (by decide) rfl (by decide +kernel) ⟨Nat.le_of_ble_eq_true rfl, Nat.le_of_ble_eq_true rfl⟩ ?_
  refine gv_dup 39 rfl dX9_init_38 rfl ?_
  refine ks_call 42 rfl 42 39 10 rfl 660 rfl rfl dX9_init_39 mI_X5_init mi_X9_24 ⟨Nat.le_of_ble_eq_true rfl, Nat.le_of_ble_eq_true rfl⟩ (Nat.le_of_ble_eq_true rfl) ⟨Nat.le_of_ble_eq_true rfl, Nat.le_of_ble_eq_true rfl⟩ (K_X5 hG 40 (Nat.le_of_ble_eq_true rfl) rfl rfl (Nat.le_of_ble_eq_true rfl) (by decide +kernel) (by decide +kernel)) ?_
  refine ks_aast (i := 32) (b := 40) 43 rfl 40 rfl dX9_init_42 (Nat.le_of_ble_eq_true rfl) rfl (Nat.le_of_ble_eq_true rfl) rfl ⟨by decide, by decide⟩ (by decide) rfl (by decide +kernel) ?_
  refine gv_iinc 46 rfl dX9_init_43 (Nat.le_of_ble_eq_true rfl) rfl rfl ?_
  refine gv_goto 25 dX9_init_46 rfl ?_
  refine gv_iload_n 26 rfl dX9_init_25 rfl ?_
  refine gv_iconst 27 rfl dX9_init_26 ?_
  refine gv_icmp_ge 49 30 rfl dX9_init_27 rfl (by decide) (by decide) (fun h => absurd h (by decide)) (fun _ => ?_)
  refine gv_aload_n 31 rfl dX9_init_30 rfl ?_
  refine kv_getr 34 rfl dX9_init_31 fl_X9_11 (kS_o 31 (Nat.le_of_ble_eq_true rfl) rfl) (kS_f 31 0 32 (by decide +kernel)) ?_
  refine gv_iload_n 35 rfl dX9_init_34 rfl ?_
  refine ks_new 38 rfl 43 rfl 11 rfl 663 rfl dX9_init_35 nw_X9_9 (by decide) rfl (by decide +kernel) ⟨Nat.le_of_ble_eq_true rfl, Nat.le_of_ble_eq_true rfl⟩ ?_
  refine gv_dup 39 rfl dX9_init_38 rfl ?_
  refine ks_call 42 rfl 44 41 12 rfl 855 rfl rfl dX9_init_39 mI_X5_init mi_X9_24 ⟨Nat.le_of_ble_eq_true rfl, Nat.le_of_ble_eq_true rfl⟩ (Nat.le_of_ble_eq_true rfl) ⟨Nat.le_of_ble_eq_true rfl, Nat.le_of_ble_eq_true rfl⟩ (K_X5 hG 42 (Nat.le_of_ble_eq_true rfl) rfl rfl (Nat.le_of_ble_eq_true rfl) (by decide +kernel) (by decide +kernel)) ?_
  refine ks_aast (i := 32) (b := 42) 43 rfl 42 rfl dX9_init_42 (Nat.le_of_ble_eq_true rfl) rfl (Nat.le_of_ble_eq_true rfl) rfl ⟨by decide, by decide⟩ (by decide) rfl (by decide +kernel) ?_
  refine gv_iinc 46 rfl dX9_init_43 (Nat.le_of_ble_eq_true rfl) rfl rfl ?_
  refine gv_goto 25 dX9_init_46 rfl ?_
  refine gv_iload_n 26 rfl dX9_init_25 rfl ?_
  refine gv_iconst 27 rfl dX9_init_26 ?_
  refine gv_icmp_ge 49 30 rfl dX9_init_27 rfl (by decide) (by decide) (fun _ => ?_) (fun h => absurd (by decide) h)
  exact kv_ret dX9_init_49 rfl rfl (by omega) rfl (Nat.le_of_ble_eq_true rfl)
theorem K_X2_44 {G : zG} {B : Nat} (hG : ∀ q, B ≤ q → zgA G q) : kC G M_X2_init [.ref (B + 44)] (kS B 45 43, z0, z0) (B + 45) (kS B 47 45, z0, z0) 2 68 := by
  refine kC_of 0 rfl (Nat.le_of_ble_eq_true rfl) (fun q hq => hG q (by omega)) rfl ?_
  refine gv_aload_n 1 rfl dX2_init_0 rfl ?_
  refine kv_obj 4 rfl dX2_init_1 ob_X2_3 ⟨Nat.le_of_ble_eq_true rfl, Nat.le_of_ble_eq_true rfl⟩ ?_
  refine gv_aload_n 5 rfl dX2_init_4 rfl ?_
  refine gv_bipush 7 rfl dX2_init_5 rfl ?_
  refine ks_newi (N := 64) 9 rfl 46 rfl 1 rfl 64 rfl dX2_init_7 (Nat.le_of_ble_eq_true rfl) rfl ⟨Nat.le_of_ble_eq_true rfl, Nat.le_of_ble_eq_true rfl⟩ ?_
  refine ks_put (i := 44) (b := 45) 12 rfl 44 rfl dX2_init_9 ff_X2_9 (Nat.le_of_ble_eq_true rfl) rfl rfl (by decide +kernel) ?_
  refine gv_aload_n 13 rfl dX2_init_12 rfl ?_
  refine gv_iconst 14 rfl dX2_init_13 ?_
  refine ks_newi (N := 4) 16 rfl 47 rfl 2 rfl 68 rfl dX2_init_14 (Nat.le_of_ble_eq_true rfl) rfl ⟨Nat.le_of_ble_eq_true rfl, Nat.le_of_ble_eq_true rfl⟩ ?_
  refine ks_put (i := 44) (b := 46) 19 rfl 45 rfl dX2_init_16 ff_X2_15 (Nat.le_of_ble_eq_true rfl) rfl rfl (by decide +kernel) ?_
  exact kv_ret dX2_init_19 rfl rfl (by omega) rfl (Nat.le_of_ble_eq_true rfl)
theorem K_X1_47 {G : zG} {B : Nat} (hG : ∀ q, B ≤ q → zgA G q) : kC G M_X1_init [.ref (B + 47)] (kS B 48 46, z0, z0) (B + 48) (kS B 55 53, z0, z0) 7 793 := by
  refine kC_of 0 rfl (Nat.le_of_ble_eq_true rfl) (fun q hq => hG q (by omega)) rfl ?_
  refine gv_aload_n 1 rfl dX1_init_0 rfl ?_
  refine kv_obj 4 rfl dX1_init_1 ob_X1_3 ⟨Nat.le_of_ble_eq_true rfl, Nat.le_of_ble_eq_true rfl⟩ ?_
  refine gv_aload_n 5 rfl dX1_init_4 rfl ?_
  refine ks_new 8 rfl 49 rfl 1 rfl 3 rfl dX1_init_5 nw_X1_9 (by decide) rfl (by decide +kernel) ⟨Nat.le_of_ble_eq_true rfl, Nat.le_of_ble_eq_true rfl⟩ ?_
  refine gv_dup 9 rfl dX1_init_8 rfl ?_
  refine ks_call 12 rfl 50 47 2 rfl 195 rfl rfl dX1_init_9 mI_X5_init mi_X1_11 ⟨Nat.le_of_ble_eq_true rfl, Nat.le_of_ble_eq_true rfl⟩ (Nat.le_of_ble_eq_true rfl) ⟨Nat.le_of_ble_eq_true rfl, Nat.le_of_ble_eq_true rfl⟩ (K_X5 hG 48 (Nat.le_of_ble_eq_true rfl) rfl rfl (Nat.le_of_ble_eq_true rfl) (by decide +kernel) (by decide +kernel)) ?_
  refine ks_put (i := 47) (b := 48) 15 rfl 48 rfl dX1_init_12 ff_X1_12 (Nat.le_of_ble_eq_true rfl) rfl rfl (by decide +kernel) ?_
  refine gv_aload_n 16 rfl dX1_init_15 rfl ?_
  refine ks_new 19 rfl 51 rfl 3 rfl 198 rfl dX1_init_16 nw_X1_9 (by decide) rfl (by decide +kernel) ⟨Nat.le_of_ble_eq_true rfl, Nat.le_of_ble_eq_true rfl⟩ ?_
  refine gv_dup 20 rfl dX1_init_19 rfl ?_
  refine ks_call 23 rfl 52 49 4 rfl 390 rfl rfl dX1_init_20 mI_X5_init mi_X1_11 ⟨Nat.le_of_ble_eq_true rfl, Nat.le_of_ble_eq_true rfl⟩ (Nat.le_of_ble_eq_true rfl) ⟨Nat.le_of_ble_eq_true rfl, Nat.le_of_ble_eq_true rfl⟩ (K_X5 hG 50 (Nat.le_of_ble_eq_true rfl) rfl rfl (Nat.le_of_ble_eq_true rfl) (by decide +kernel) (by decide +kernel)) ?_
  refine ks_put (i := 47) (b := 50) 26 rfl 50 rfl dX1_init_23 ff_X1_18 (Nat.le_of_ble_eq_true rfl) rfl rfl (by decide +kernel) ?_
  refine gv_aload_n 27 rfl dX1_init_26 rfl ?_
  refine gv_iconst 28 rfl dX1_init_27 ?_
  refine ks_newi (N := 3) 30 rfl 53 rfl 5 rfl 393 rfl dX1_init_28 (Nat.le_of_ble_eq_true rfl) rfl ⟨Nat.le_of_ble_eq_true rfl, Nat.le_of_ble_eq_true rfl⟩ ?_
  refine ks_put (i := 47) (b := 52) 33 rfl 51 rfl dX1_init_30 ff_X1_21 (Nat.le_of_ble_eq_true rfl) rfl rfl (by decide +kernel) ?_
  refine gv_aload_n 34 rfl dX1_init_33 rfl ?_
  refine gv_sipush 37 rfl dX1_init_34 rfl ?_
  refine ks_newi (N := 256) 39 rfl 54 rfl 6 rfl 649 rfl dX1_init_37 (Nat.le_of_ble_eq_true rfl) rfl ⟨Nat.le_of_ble_eq_true rfl, Nat.le_of_ble_eq_true rfl⟩ ?_
  refine ks_put (i := 47) (b := 53) 42 rfl 52 rfl dX1_init_39 ff_X1_25 (Nat.le_of_ble_eq_true rfl) rfl rfl (by decide +kernel) ?_
  refine gv_aload_n 43 rfl dX1_init_42 rfl ?_
  refine gv_sipush 46 rfl dX1_init_43 rfl ?_
  refine ks_newi (N := 144) 48 rfl 55 rfl 7 rfl 793 rfl dX1_init_46 (Nat.le_of_ble_eq_true rfl) rfl ⟨Nat.le_of_ble_eq_true rfl, Nat.le_of_ble_eq_true rfl⟩ ?_
  refine ks_put (i := 47) (b := 54) 51 rfl 53 rfl dX1_init_48 ff_X1_28 (Nat.le_of_ble_eq_true rfl) rfl rfl (by decide +kernel) ?_
  exact kv_ret dX1_init_51 rfl rfl (by omega) rfl (Nat.le_of_ble_eq_true rfl)
theorem K_X3_55 {G : zG} {B : Nat} (hG : ∀ q, B ≤ q → zgA G q) : kC G M_X3_init [.ref (B + 55)] (kS B 56 54, z0, z0) (B + 56) (kS B 57 55, z0, z0) 1 396 := by
  refine kC_of 0 rfl (Nat.le_of_ble_eq_true rfl) (fun q hq => hG q (by omega)) rfl ?_
  refine gv_aload_n 1 rfl dX3_init_0 rfl ?_
  refine kv_obj 4 rfl dX3_init_1 ob_X3_3 ⟨Nat.le_of_ble_eq_true rfl, Nat.le_of_ble_eq_true rfl⟩ ?_
  refine gv_aload_n 5 rfl dX3_init_4 rfl ?_
  refine gv_sipush 8 rfl dX3_init_5 rfl ?_
  refine ks_newl (N := 396) 10 rfl 57 rfl 1 rfl 396 rfl dX3_init_8 (Nat.le_of_ble_eq_true rfl) rfl ⟨Nat.le_of_ble_eq_true rfl, Nat.le_of_ble_eq_true rfl⟩ ?_
  refine ks_put (i := 55) (b := 56) 13 rfl 55 rfl dX3_init_10 ff_X3_11 (Nat.le_of_ble_eq_true rfl) rfl rfl (by decide +kernel) ?_
  exact kv_ret dX3_init_13 rfl rfl (by omega) rfl (Nat.le_of_ble_eq_true rfl)
theorem K_X1_57 {G : zG} {B : Nat} (hG : ∀ q, B ≤ q → zgA G q) : kC G M_X1_init [.ref (B + 57)] (kS B 58 56, z0, z0) (B + 58) (kS B 65 63, z0, z0) 7 793 := by
  refine kC_of 0 rfl (Nat.le_of_ble_eq_true rfl) (fun q hq => hG q (by omega)) rfl ?_
  refine gv_aload_n 1 rfl dX1_init_0 rfl ?_
  refine kv_obj 4 rfl dX1_init_1 ob_X1_3 ⟨Nat.le_of_ble_eq_true rfl, Nat.le_of_ble_eq_true rfl⟩ ?_
  refine gv_aload_n 5 rfl dX1_init_4 rfl ?_
  refine ks_new 8 rfl 59 rfl 1 rfl 3 rfl dX1_init_5 nw_X1_9 (by decide) rfl (by decide +kernel) ⟨Nat.le_of_ble_eq_true rfl, Nat.le_of_ble_eq_true rfl⟩ ?_
  refine gv_dup 9 rfl dX1_init_8 rfl ?_
  refine ks_call 12 rfl 60 57 2 rfl 195 rfl rfl dX1_init_9 mI_X5_init mi_X1_11 ⟨Nat.le_of_ble_eq_true rfl, Nat.le_of_ble_eq_true rfl⟩ (Nat.le_of_ble_eq_true rfl) ⟨Nat.le_of_ble_eq_true rfl, Nat.le_of_ble_eq_true rfl⟩ (K_X5 hG 58 (Nat.le_of_ble_eq_true rfl) rfl rfl (Nat.le_of_ble_eq_true rfl) (by decide +kernel) (by decide +kernel)) ?_
  refine ks_put (i := 57) (b := 58) 15 rfl 58 rfl dX1_init_12 ff_X1_12 (Nat.le_of_ble_eq_true rfl) rfl rfl (by decide +kernel) ?_
  refine gv_aload_n 16 rfl dX1_init_15 rfl ?_
  refine ks_new 19 rfl 61 rfl 3 rfl 198 rfl dX1_init_16 nw_X1_9 (by decide) rfl (by decide +kernel) ⟨Nat.le_of_ble_eq_true rfl, Nat.le_of_ble_eq_true rfl⟩ ?_
  refine gv_dup 20 rfl dX1_init_19 rfl ?_
  refine ks_call 23 rfl 62 59 4 rfl 390 rfl rfl dX1_init_20 mI_X5_init mi_X1_11 ⟨Nat.le_of_ble_eq_true rfl, Nat.le_of_ble_eq_true rfl⟩ (Nat.le_of_ble_eq_true rfl) ⟨Nat.le_of_ble_eq_true rfl, Nat.le_of_ble_eq_true rfl⟩ (K_X5 hG 60 (Nat.le_of_ble_eq_true rfl) rfl rfl (Nat.le_of_ble_eq_true rfl) (by decide +kernel) (by decide +kernel)) ?_
  refine ks_put (i := 57) (b := 60) 26 rfl 60 rfl dX1_init_23 ff_X1_18 (Nat.le_of_ble_eq_true rfl) rfl rfl (by decide +kernel) ?_
  refine gv_aload_n 27 rfl dX1_init_26 rfl ?_
  refine gv_iconst 28 rfl dX1_init_27 ?_
  refine ks_newi (N := 3) 30 rfl 63 rfl 5 rfl 393 rfl dX1_init_28 (Nat.le_of_ble_eq_true rfl) rfl ⟨Nat.le_of_ble_eq_true rfl, Nat.le_of_ble_eq_true rfl⟩ ?_
  refine ks_put (i := 57) (b := 62) 33 rfl 61 rfl dX1_init_30 ff_X1_21 (Nat.le_of_ble_eq_true rfl) rfl rfl (by decide +kernel) ?_
  refine gv_aload_n 34 rfl dX1_init_33 rfl ?_
  refine gv_sipush 37 rfl dX1_init_34 rfl ?_
  refine ks_newi (N := 256) 39 rfl 64 rfl 6 rfl 649 rfl dX1_init_37 (Nat.le_of_ble_eq_true rfl) rfl ⟨Nat.le_of_ble_eq_true rfl, Nat.le_of_ble_eq_true rfl⟩ ?_
  refine ks_put (i := 57) (b := 63) 42 rfl 62 rfl dX1_init_39 ff_X1_25 (Nat.le_of_ble_eq_true rfl) rfl rfl (by decide +kernel) ?_
  refine gv_aload_n 43 rfl dX1_init_42 rfl ?_
  refine gv_sipush 46 rfl dX1_init_43 rfl ?_
  refine ks_newi (N := 144) 48 rfl 65 rfl 7 rfl 793 rfl dX1_init_46 (Nat.le_of_ble_eq_true rfl) rfl ⟨Nat.le_of_ble_eq_true rfl, Nat.le_of_ble_eq_true rfl⟩ ?_
  refine ks_put (i := 57) (b := 64) 51 rfl 63 rfl dX1_init_48 ff_X1_28 (Nat.le_of_ble_eq_true rfl) rfl rfl (by decide +kernel) ?_
  exact kv_ret dX1_init_51 rfl rfl (by omega) rfl (Nat.le_of_ble_eq_true rfl)
theorem K_X7_65 {G : zG} {B : Nat} (hG : ∀ q, B ≤ q → zgA G q) : kC G M_X7_init [.ref (B + 65)] (kS B 66 64, z0, z0) (B + 66) (kS B 67 65, z0, z0) 1 256 := by
  refine kC_of 0 rfl (Nat.le_of_ble_eq_true rfl) (fun q hq => hG q (by omega)) rfl ?_
  refine gv_aload_n 1 rfl dX7_init_0 rfl ?_
  refine kv_obj 4 rfl dX7_init_1 ob_X7_3 ⟨Nat.le_of_ble_eq_true rfl, Nat.le_of_ble_eq_true rfl⟩ ?_
  refine gv_aload_n 5 rfl dX7_init_4 rfl ?_
  refine gv_sipush 8 rfl dX7_init_5 rfl ?_
  refine ks_newi (N := 256) 10 rfl 67 rfl 1 rfl 256 rfl dX7_init_8 (Nat.le_of_ble_eq_true rfl) rfl ⟨Nat.le_of_ble_eq_true rfl, Nat.le_of_ble_eq_true rfl⟩ ?_
  refine ks_put (i := 65) (b := 66) 13 rfl 65 rfl dX7_init_10 ff_X7_9 (Nat.le_of_ble_eq_true rfl) rfl rfl (by decide +kernel) ?_
  exact kv_ret dX7_init_13 rfl rfl (by omega) rfl (Nat.le_of_ble_eq_true rfl)
theorem K_X6_67 {G : zG} {B : Nat} (hG : ∀ q, B ≤ q → zgA G q) : kC G M_X6_init [.ref (B + 67)] (kS B 68 66, z0, z0) (B + 68) (kS B 71 69, z0, z0) 3 576 := by
  refine kC_of 0 rfl (Nat.le_of_ble_eq_true rfl) (fun q hq => hG q (by omega)) rfl ?_
  refine gv_aload_n 1 rfl dX6_init_0 rfl ?_
  refine kv_obj 4 rfl dX6_init_1 ob_X6_3 ⟨Nat.le_of_ble_eq_true rfl, Nat.le_of_ble_eq_true rfl⟩ ?_
  refine gv_aload_n 5 rfl dX6_init_4 rfl ?_
  refine gv_sipush 8 rfl dX6_init_5 rfl ?_
  refine ks_newi (N := 192) 10 rfl 69 rfl 1 rfl 192 rfl dX6_init_8 (Nat.le_of_ble_eq_true rfl) rfl ⟨Nat.le_of_ble_eq_true rfl, Nat.le_of_ble_eq_true rfl⟩ ?_
  refine ks_put (i := 67) (b := 68) 13 rfl 67 rfl dX6_init_10 ff_X6_9 (Nat.le_of_ble_eq_true rfl) rfl rfl (by decide +kernel) ?_
  refine gv_aload_n 14 rfl dX6_init_13 rfl ?_
  refine gv_sipush 17 rfl dX6_init_14 rfl ?_
  refine ks_newi (N := 192) 19 rfl 70 rfl 2 rfl 384 rfl dX6_init_17 (Nat.le_of_ble_eq_true rfl) rfl ⟨Nat.le_of_ble_eq_true rfl, Nat.le_of_ble_eq_true rfl⟩ ?_
  refine ks_put (i := 67) (b := 69) 22 rfl 68 rfl dX6_init_19 ff_X6_15 (Nat.le_of_ble_eq_true rfl) rfl rfl (by decide +kernel) ?_
  refine gv_aload_n 23 rfl dX6_init_22 rfl ?_
  refine gv_sipush 26 rfl dX6_init_23 rfl ?_
  refine ks_newi (N := 192) 28 rfl 71 rfl 3 rfl 576 rfl dX6_init_26 (Nat.le_of_ble_eq_true rfl) rfl ⟨Nat.le_of_ble_eq_true rfl, Nat.le_of_ble_eq_true rfl⟩ ?_
  refine ks_put (i := 67) (b := 70) 31 rfl 69 rfl dX6_init_28 ff_X6_18 (Nat.le_of_ble_eq_true rfl) rfl rfl (by decide +kernel) ?_
  exact kv_ret dX6_init_31 rfl rfl (by omega) rfl (Nat.le_of_ble_eq_true rfl)
theorem K_X4_71 {G : zG} {B : Nat} (hG : ∀ q, B ≤ q → zgA G q) : kC G M_X4_init [.ref (B + 71)] (kS B 72 70, z0, z0) (B + 72) (kS B 73 71, z0, z0) 1 356 := by
  refine kC_of 0 rfl (Nat.le_of_ble_eq_true rfl) (fun q hq => hG q (by omega)) rfl ?_
  refine gv_aload_n 1 rfl dX4_init_0 rfl ?_
  refine kv_obj 4 rfl dX4_init_1 ob_X4_3 ⟨Nat.le_of_ble_eq_true rfl, Nat.le_of_ble_eq_true rfl⟩ ?_
  refine gv_aload_n 5 rfl dX4_init_4 rfl ?_
  refine gv_sipush 8 rfl dX4_init_5 rfl ?_
  refine ks_newi (N := 356) 10 rfl 73 rfl 1 rfl 356 rfl dX4_init_8 (Nat.le_of_ble_eq_true rfl) rfl ⟨Nat.le_of_ble_eq_true rfl, Nat.le_of_ble_eq_true rfl⟩ ?_
  refine ks_put (i := 71) (b := 72) 13 rfl 71 rfl dX4_init_10 ff_X4_11 (Nat.le_of_ble_eq_true rfl) rfl rfl (by decide +kernel) ?_
  exact kv_ret dX4_init_13 rfl rfl (by omega) rfl (Nat.le_of_ble_eq_true rfl)
theorem K_X10_0 {G : zG} {B : Nat} (hG : ∀ q, B ≤ q → zgA G q) : kC G M_X10_init [.ref (B + 0)] (kS B 1 0, z0, z0) (B + 1) (kS B 86 85, z0, z0) 85 8581 := by
  refine kC_of 1 rfl (Nat.le_of_ble_eq_true rfl) (fun q hq => hG q (by omega)) rfl ?_
  refine gv_aload_n 1 rfl dX10_init_0 rfl ?_
  refine kv_obj 4 rfl dX10_init_1 ob_X10_3 ⟨Nat.le_of_ble_eq_true rfl, Nat.le_of_ble_eq_true rfl⟩ ?_
  refine gv_aload_n 5 rfl dX10_init_4 rfl ?_
  refine gv_bipush 7 rfl dX10_init_5 rfl ?_
  refine ks_newq (N := 6) 10 rfl 2 rfl 1 rfl 6 rfl dX10_init_7 an_X10_9 (Nat.le_of_ble_eq_true rfl) rfl (by decide +kernel) ⟨Nat.le_of_ble_eq_true rfl, Nat.le_of_ble_eq_true rfl⟩ ?_
  refine ks_put (i := 0) (b := 1) 13 rfl 1 rfl dX10_init_10 ff_X10_11 (Nat.le_of_ble_eq_true rfl) rfl rfl (by decide +kernel) ?_
  refine gv_aload_n 14 rfl dX10_init_13 rfl ?_
  refine ks_new 17 rfl 3 rfl 2 rfl 9 rfl dX10_init_14 nw_X10_9 (by decide) rfl (by decide +kernel) ⟨Nat.le_of_ble_eq_true rfl, Nat.le_of_ble_eq_true rfl⟩ ?_
  refine gv_dup 18 rfl dX10_init_17 rfl ?_
  refine ks_call 21 rfl 4 2 3 rfl 201 rfl rfl dX10_init_18 mI_X5_init mi_X10_15 ⟨Nat.le_of_ble_eq_true rfl, Nat.le_of_ble_eq_true rfl⟩ (Nat.le_of_ble_eq_true rfl) ⟨Nat.le_of_ble_eq_true rfl, Nat.le_of_ble_eq_true rfl⟩ (K_X5 hG 2 (Nat.le_of_ble_eq_true rfl) rfl rfl (Nat.le_of_ble_eq_true rfl) (by decide +kernel) (by decide +kernel)) ?_
  refine ks_put (i := 0) (b := 2) 24 rfl 3 rfl dX10_init_21 ff_X10_16 (Nat.le_of_ble_eq_true rfl) rfl rfl (by decide +kernel) ?_
  refine gv_aload_n 25 rfl dX10_init_24 rfl ?_
  refine ks_new 28 rfl 5 rfl 4 rfl 204 rfl dX10_init_25 nw_X10_9 (by decide) rfl (by decide +kernel) ⟨Nat.le_of_ble_eq_true rfl, Nat.le_of_ble_eq_true rfl⟩ ?_
  refine gv_dup 29 rfl dX10_init_28 rfl ?_
  refine ks_call 32 rfl 6 4 5 rfl 396 rfl rfl dX10_init_29 mI_X5_init mi_X10_15 ⟨Nat.le_of_ble_eq_true rfl, Nat.le_of_ble_eq_true rfl⟩ (Nat.le_of_ble_eq_true rfl) ⟨Nat.le_of_ble_eq_true rfl, Nat.le_of_ble_eq_true rfl⟩ (K_X5 hG 4 (Nat.le_of_ble_eq_true rfl) rfl rfl (Nat.le_of_ble_eq_true rfl) (by decide +kernel) (by decide +kernel)) ?_
  refine ks_put (i := 0) (b := 4) 35 rfl 5 rfl dX10_init_32 ff_X10_20 (Nat.le_of_ble_eq_true rfl) rfl rfl (by decide +kernel) ?_
  refine gv_aload_n 36 rfl dX10_init_35 rfl ?_
  refine ks_new 39 rfl 7 rfl 6 rfl 400 rfl dX10_init_36 nw_X10_23 (by decide) rfl (by decide +kernel) ⟨Nat.le_of_ble_eq_true rfl, Nat.le_of_ble_eq_true rfl⟩ ?_
  refine gv_dup 40 rfl dX10_init_39 rfl ?_
  refine ks_call 43 rfl 29 27 28 rfl 2370 rfl rfl dX10_init_40 mI_X0_init mi_X10_25 ⟨Nat.le_of_ble_eq_true rfl, Nat.le_of_ble_eq_true rfl⟩ (Nat.le_of_ble_eq_true rfl) ⟨Nat.le_of_ble_eq_true rfl, Nat.le_of_ble_eq_true rfl⟩ (K_X0_6 hG) ?_
  refine ks_put (i := 0) (b := 6) 46 rfl 28 rfl dX10_init_43 ff_X10_26 (Nat.le_of_ble_eq_true rfl) rfl rfl (by decide +kernel) ?_
  refine gv_aload_n 47 rfl dX10_init_46 rfl ?_
  refine ks_new 50 rfl 30 rfl 29 rfl 2377 rfl dX10_init_47 nw_X10_30 (by decide) rfl (by decide +kernel) ⟨Nat.le_of_ble_eq_true rfl, Nat.le_of_ble_eq_true rfl⟩ ?_
  refine gv_dup 51 rfl dX10_init_50 rfl ?_
  refine ks_call 54 rfl 31 29 30 rfl 3077 rfl rfl dX10_init_51 mI_X8_init mi_X10_32 ⟨Nat.le_of_ble_eq_true rfl, Nat.le_of_ble_eq_true rfl⟩ (Nat.le_of_ble_eq_true rfl) ⟨Nat.le_of_ble_eq_true rfl, Nat.le_of_ble_eq_true rfl⟩ (K_X8_29 hG) ?_
  refine ks_put (i := 0) (b := 29) 57 rfl 30 rfl dX10_init_54 ff_X10_33 (Nat.le_of_ble_eq_true rfl) rfl rfl (by decide +kernel) ?_
  refine gv_aload_n 58 rfl dX10_init_57 rfl ?_
  refine ks_new 61 rfl 32 rfl 31 rfl 3080 rfl dX10_init_58 nw_X10_37 (by decide) rfl (by decide +kernel) ⟨Nat.le_of_ble_eq_true rfl, Nat.le_of_ble_eq_true rfl⟩ ?_
  refine gv_dup 62 rfl dX10_init_61 rfl ?_
  refine ks_call 65 rfl 44 42 43 rfl 3935 rfl rfl dX10_init_62 mI_X9_init mi_X10_39 ⟨Nat.le_of_ble_eq_true rfl, Nat.le_of_ble_eq_true rfl⟩ (Nat.le_of_ble_eq_true rfl) ⟨Nat.le_of_ble_eq_true rfl, Nat.le_of_ble_eq_true rfl⟩ (K_X9_31 hG) ?_
  refine ks_put (i := 0) (b := 31) 68 rfl 43 rfl dX10_init_65 ff_X10_40 (Nat.le_of_ble_eq_true rfl) rfl rfl (by decide +kernel) ?_
  refine gv_aload_n 69 rfl dX10_init_68 rfl ?_
  refine ks_new 72 rfl 45 rfl 44 rfl 3938 rfl dX10_init_69 nw_X10_44 (by decide) rfl (by decide +kernel) ⟨Nat.le_of_ble_eq_true rfl, Nat.le_of_ble_eq_true rfl⟩ ?_
  refine gv_dup 73 rfl dX10_init_72 rfl ?_
  refine ks_call 76 rfl 47 45 46 rfl 4006 rfl rfl dX10_init_73 mI_X2_init mi_X10_46 ⟨Nat.le_of_ble_eq_true rfl, Nat.le_of_ble_eq_true rfl⟩ (Nat.le_of_ble_eq_true rfl) ⟨Nat.le_of_ble_eq_true rfl, Nat.le_of_ble_eq_true rfl⟩ (K_X2_44 hG) ?_
  refine ks_put (i := 0) (b := 44) 79 rfl 46 rfl dX10_init_76 ff_X10_47 (Nat.le_of_ble_eq_true rfl) rfl rfl (by decide +kernel) ?_
  refine gv_aload_n 80 rfl dX10_init_79 rfl ?_
  refine ks_new 83 rfl 48 rfl 47 rfl 4015 rfl dX10_init_80 nw_X10_51 (by decide) rfl (by decide +kernel) ⟨Nat.le_of_ble_eq_true rfl, Nat.le_of_ble_eq_true rfl⟩ ?_
  refine gv_dup 84 rfl dX10_init_83 rfl ?_
  refine ks_call 87 rfl 55 53 54 rfl 4808 rfl rfl dX10_init_84 mI_X1_init mi_X10_53 ⟨Nat.le_of_ble_eq_true rfl, Nat.le_of_ble_eq_true rfl⟩ (Nat.le_of_ble_eq_true rfl) ⟨Nat.le_of_ble_eq_true rfl, Nat.le_of_ble_eq_true rfl⟩ (K_X1_47 hG) ?_
  refine ks_put (i := 0) (b := 47) 90 rfl 54 rfl dX10_init_87 ff_X10_54 (Nat.le_of_ble_eq_true rfl) rfl rfl (by decide +kernel) ?_
  refine gv_aload_n 91 rfl dX10_init_90 rfl ?_
  refine ks_new 94 rfl 56 rfl 55 rfl 4809 rfl dX10_init_91 nw_X10_58 (by decide) rfl (by decide +kernel) ⟨Nat.le_of_ble_eq_true rfl, Nat.le_of_ble_eq_true rfl⟩ ?_
  refine gv_dup 95 rfl dX10_init_94 rfl ?_
  refine ks_call 98 rfl 57 55 56 rfl 5205 rfl rfl dX10_init_95 mI_X3_init mi_X10_60 ⟨Nat.le_of_ble_eq_true rfl, Nat.le_of_ble_eq_true rfl⟩ (Nat.le_of_ble_eq_true rfl) ⟨Nat.le_of_ble_eq_true rfl, Nat.le_of_ble_eq_true rfl⟩ (K_X3_55 hG) ?_
  refine ks_put (i := 0) (b := 55) 101 rfl 56 rfl dX10_init_98 ff_X10_61 (Nat.le_of_ble_eq_true rfl) rfl rfl (by decide +kernel) ?_
  refine gv_aload_n 102 rfl dX10_init_101 rfl ?_
  refine ks_new 105 rfl 58 rfl 57 rfl 5214 rfl dX10_init_102 nw_X10_51 (by decide) rfl (by decide +kernel) ⟨Nat.le_of_ble_eq_true rfl, Nat.le_of_ble_eq_true rfl⟩ ?_
  refine gv_dup 106 rfl dX10_init_105 rfl ?_
  refine ks_call 109 rfl 65 63 64 rfl 6007 rfl rfl dX10_init_106 mI_X1_init mi_X10_53 ⟨Nat.le_of_ble_eq_true rfl, Nat.le_of_ble_eq_true rfl⟩ (Nat.le_of_ble_eq_true rfl) ⟨Nat.le_of_ble_eq_true rfl, Nat.le_of_ble_eq_true rfl⟩ (K_X1_57 hG) ?_
  refine ks_put (i := 0) (b := 57) 112 rfl 64 rfl dX10_init_109 ff_X10_65 (Nat.le_of_ble_eq_true rfl) rfl rfl (by decide +kernel) ?_
  refine gv_aload_n 113 rfl dX10_init_112 rfl ?_
  refine ks_new 116 rfl 66 rfl 65 rfl 6010 rfl dX10_init_113 nw_X10_68 (by decide) rfl (by decide +kernel) ⟨Nat.le_of_ble_eq_true rfl, Nat.le_of_ble_eq_true rfl⟩ ?_
  refine gv_dup 117 rfl dX10_init_116 rfl ?_
  refine ks_call 120 rfl 67 65 66 rfl 6266 rfl rfl dX10_init_117 mI_X7_init mi_X10_70 ⟨Nat.le_of_ble_eq_true rfl, Nat.le_of_ble_eq_true rfl⟩ (Nat.le_of_ble_eq_true rfl) ⟨Nat.le_of_ble_eq_true rfl, Nat.le_of_ble_eq_true rfl⟩ (K_X7_65 hG) ?_
  refine ks_put (i := 0) (b := 65) 123 rfl 66 rfl dX10_init_120 ff_X10_71 (Nat.le_of_ble_eq_true rfl) rfl rfl (by decide +kernel) ?_
  refine gv_aload_n 124 rfl dX10_init_123 rfl ?_
  refine ks_new 127 rfl 68 rfl 67 rfl 6271 rfl dX10_init_124 nw_X10_75 (by decide) rfl (by decide +kernel) ⟨Nat.le_of_ble_eq_true rfl, Nat.le_of_ble_eq_true rfl⟩ ?_
  refine gv_dup 128 rfl dX10_init_127 rfl ?_
  refine ks_call 131 rfl 71 69 70 rfl 6847 rfl rfl dX10_init_128 mI_X6_init mi_X10_77 ⟨Nat.le_of_ble_eq_true rfl, Nat.le_of_ble_eq_true rfl⟩ (Nat.le_of_ble_eq_true rfl) ⟨Nat.le_of_ble_eq_true rfl, Nat.le_of_ble_eq_true rfl⟩ (K_X6_67 hG) ?_
  refine ks_put (i := 0) (b := 67) 134 rfl 70 rfl dX10_init_131 ff_X10_78 (Nat.le_of_ble_eq_true rfl) rfl rfl (by decide +kernel) ?_
  refine gv_aload_n 135 rfl dX10_init_134 rfl ?_
  refine ks_new 138 rfl 72 rfl 71 rfl 6852 rfl dX10_init_135 nw_X10_82 (by decide) rfl (by decide +kernel) ⟨Nat.le_of_ble_eq_true rfl, Nat.le_of_ble_eq_true rfl⟩ ?_
  refine gv_dup 139 rfl dX10_init_138 rfl ?_
  refine ks_call 142 rfl 73 71 72 rfl 7208 rfl rfl dX10_init_139 mI_X4_init mi_X10_84 ⟨Nat.le_of_ble_eq_true rfl, Nat.le_of_ble_eq_true rfl⟩ (Nat.le_of_ble_eq_true rfl) ⟨Nat.le_of_ble_eq_true rfl, Nat.le_of_ble_eq_true rfl⟩ (K_X4_71 hG) ?_
  refine ks_put (i := 0) (b := 71) 145 rfl 72 rfl dX10_init_142 ff_X10_85 (Nat.le_of_ble_eq_true rfl) rfl rfl (by decide +kernel) ?_
  refine gv_aload_n 146 rfl dX10_init_145 rfl ?_
  refine gv_sipush 149 rfl dX10_init_146 rfl ?_
  refine ks_newi (N := 203) 151 rfl 74 rfl 73 rfl 7411 rfl dX10_init_149 (Nat.le_of_ble_eq_true rfl) rfl ⟨Nat.le_of_ble_eq_true rfl, Nat.le_of_ble_eq_true rfl⟩ ?_
  refine ks_put (i := 0) (b := 73) 154 rfl 73 rfl dX10_init_151 ff_X10_89 (Nat.le_of_ble_eq_true rfl) rfl rfl (by decide +kernel) ?_
  refine gv_iconst 155 rfl dX10_init_154 ?_
  refine gv_istore_n 156 rfl dX10_init_155 (Nat.le_of_ble_eq_true rfl) rfl ?_
  refine gv_iload_n 157 rfl dX10_init_156 rfl ?_
  refine gv_bipush 159 rfl dX10_init_157 rfl ?_
  refine gv_icmp_ge 181 162 rfl dX10_init_159 rfl (by decide) (by decide) (fun h => absurd h (by decide)) (fun _ => ?_)
  refine gv_aload_n 163 rfl dX10_init_162 rfl ?_
  refine kv_getr 166 rfl dX10_init_163 fl_X10_11 (kS_o 0 (Nat.le_of_ble_eq_true rfl) rfl) (kS_f 0 0 1 (by decide +kernel)) ?_
  refine gv_iload_n 167 rfl dX10_init_166 rfl ?_
  refine ks_new 170 rfl 75 rfl 74 rfl 7414 rfl dX10_init_167 nw_X10_9 (by decide) rfl (by decide +kernel) ⟨Nat.le_of_ble_eq_true rfl, Nat.le_of_ble_eq_true rfl⟩ ?_
  refine gv_dup 171 rfl dX10_init_170 rfl ?_
  refine ks_call 174 rfl 76 74 75 rfl 7606 rfl rfl dX10_init_171 mI_X5_init mi_X10_15 ⟨Nat.le_of_ble_eq_true rfl, Nat.le_of_ble_eq_true rfl⟩ (Nat.le_of_ble_eq_true rfl) ⟨Nat.le_of_ble_eq_true rfl, Nat.le_of_ble_eq_true rfl⟩ (K_X5 hG 74 (Nat.le_of_ble_eq_true rfl) rfl rfl (Nat.le_of_ble_eq_true rfl) (by decide +kernel) (by decide +kernel)) ?_
  refine ks_aast (i := 1) (b := 74) 175 rfl 75 rfl dX10_init_174 (Nat.le_of_ble_eq_true rfl) rfl (Nat.le_of_ble_eq_true rfl) rfl ⟨by decide, by decide⟩ (by decide) rfl (by decide +kernel) ?_
  refine gv_iinc 178 rfl dX10_init_175 (Nat.le_of_ble_eq_true rfl) rfl rfl ?_
  refine gv_goto 156 dX10_init_178 rfl ?_
  refine gv_iload_n 157 rfl dX10_init_156 rfl ?_
  refine gv_bipush 159 rfl dX10_init_157 rfl ?_
  refine gv_icmp_ge 181 162 rfl dX10_init_159 rfl (by decide) (by decide) (fun h => absurd h (by decide)) (fun _ => ?_)
  refine gv_aload_n 163 rfl dX10_init_162 rfl ?_
  refine kv_getr 166 rfl dX10_init_163 fl_X10_11 (kS_o 0 (Nat.le_of_ble_eq_true rfl) rfl) (kS_f 0 0 1 (by decide +kernel)) ?_
  refine gv_iload_n 167 rfl dX10_init_166 rfl ?_
  refine ks_new 170 rfl 77 rfl 76 rfl 7609 rfl dX10_init_167 nw_X10_9 (by decide) rfl (by decide +kernel) ⟨Nat.le_of_ble_eq_true rfl, Nat.le_of_ble_eq_true rfl⟩ ?_
  refine gv_dup 171 rfl dX10_init_170 rfl ?_
  refine ks_call 174 rfl 78 76 77 rfl 7801 rfl rfl dX10_init_171 mI_X5_init mi_X10_15 ⟨Nat.le_of_ble_eq_true rfl, Nat.le_of_ble_eq_true rfl⟩ (Nat.le_of_ble_eq_true rfl) ⟨Nat.le_of_ble_eq_true rfl, Nat.le_of_ble_eq_true rfl⟩ (K_X5 hG 76 (Nat.le_of_ble_eq_true rfl) rfl rfl (Nat.le_of_ble_eq_true rfl) (by decide +kernel) (by decide +kernel)) ?_
  refine ks_aast (i := 1) (b := 76) 175 rfl 77 rfl dX10_init_174 (Nat.le_of_ble_eq_true rfl) rfl (Nat.le_of_ble_eq_true rfl) rfl ⟨by decide, by decide⟩ (by decide) rfl (by decide +kernel) ?_
  refine gv_iinc 178 rfl dX10_init_175 (Nat.le_of_ble_eq_true rfl) rfl rfl ?_
  refine gv_goto 156 dX10_init_178 rfl ?_
  refine gv_iload_n 157 rfl dX10_init_156 rfl ?_
  refine gv_bipush 159 rfl dX10_init_157 rfl ?_
  refine gv_icmp_ge 181 162 rfl dX10_init_159 rfl (by decide) (by decide) (fun h => absurd h (by decide)) (fun _ => ?_)
  refine gv_aload_n 163 rfl dX10_init_162 rfl ?_
  refine kv_getr 166 rfl dX10_init_163 fl_X10_11 (kS_o 0 (Nat.le_of_ble_eq_true rfl) rfl) (kS_f 0 0 1 (by decide +kernel)) ?_
  refine gv_iload_n 167 rfl dX10_init_166 rfl ?_
  refine ks_new 170 rfl 79 rfl 78 rfl 7804 rfl dX10_init_167 nw_X10_9 (by decide) rfl (by decide +kernel) ⟨Nat.le_of_ble_eq_true rfl, Nat.le_of_ble_eq_true rfl⟩ ?_
  refine gv_dup 171 rfl dX10_init_170 rfl ?_
  refine ks_call 174 rfl 80 78 79 rfl 7996 rfl rfl dX10_init_171 mI_X5_init mi_X10_15 ⟨Nat.le_of_ble_eq_true rfl, Nat.le_of_ble_eq_true rfl⟩ (Nat.le_of_ble_eq_true rfl) ⟨Nat.le_of_ble_eq_true rfl, Nat.le_of_ble_eq_true rfl⟩ (K_X5 hG 78 (Nat.le_of_ble_eq_true rfl) rfl rfl (Nat.le_of_ble_eq_true rfl) (by decide +kernel) (by decide +kernel)) ?_
  refine ks_aast (i := 1) (b := 78) 175 rfl 79 rfl dX10_init_174 (Nat.le_of_ble_eq_true rfl) rfl (Nat.le_of_ble_eq_true rfl) rfl ⟨by decide, by decide⟩ (by decide) rfl (by decide +kernel) ?_
  refine gv_iinc 178 rfl dX10_init_175 (Nat.le_of_ble_eq_true rfl) rfl rfl ?_
  refine gv_goto 156 dX10_init_178 rfl ?_
  refine gv_iload_n 157 rfl dX10_init_156 rfl ?_
  refine gv_bipush 159 rfl dX10_init_157 rfl ?_
  refine gv_icmp_ge 181 162 rfl dX10_init_159 rfl (by decide) (by decide) (fun h => absurd h (by decide)) (fun _ => ?_)
  refine gv_aload_n 163 rfl dX10_init_162 rfl ?_
  refine kv_getr 166 rfl dX10_init_163 fl_X10_11 (kS_o 0 (Nat.le_of_ble_eq_true rfl) rfl) (kS_f 0 0 1 (by decide +kernel)) ?_
  refine gv_iload_n 167 rfl dX10_init_166 rfl ?_
  refine ks_new 170 rfl 81 rfl 80 rfl 7999 rfl dX10_init_167 nw_X10_9 (by decide) rfl (by decide +kernel) ⟨Nat.le_of_ble_eq_true rfl, Nat.le_of_ble_eq_true rfl⟩ ?_
  refine gv_dup 171 rfl dX10_init_170 rfl ?_
  refine ks_call 174 rfl 82 80 81 rfl 8191 rfl rfl dX10_init_171 mI_X5_init mi_X10_15 ⟨Nat.le_of_ble_eq_true rfl, Nat.le_of_ble_eq_true rfl⟩ (Nat.le_of_ble_eq_true rfl) ⟨Nat.le_of_ble_eq_true rfl, Nat.le_of_ble_eq_true rfl⟩ (K_X5 hG 80 (Nat.le_of_ble_eq_true rfl) rfl rfl (Nat.le_of_ble_eq_true rfl) (by decide +kernel) (by decide +kernel)) ?_
  refine ks_aast (i := 1) (b := 80) 175 rfl 81 rfl dX10_init_174 (Nat.le_of_ble_eq_true rfl) rfl (Nat.le_of_ble_eq_true rfl) rfl ⟨by decide, by decide⟩ (by decide) rfl (by decide +kernel) ?_
  refine gv_iinc 178 rfl dX10_init_175 (Nat.le_of_ble_eq_true rfl) rfl rfl ?_
  refine gv_goto 156 dX10_init_178 rfl ?_
  refine gv_iload_n 157 rfl dX10_init_156 rfl ?_
  refine gv_bipush 159 rfl dX10_init_157 rfl ?_
  refine gv_icmp_ge 181 162 rfl dX10_init_159 rfl (by decide) (by decide) (fun h => absurd h (by decide)) (fun _ => ?_)
  refine gv_aload_n 163 rfl dX10_init_162 rfl ?_
  refine kv_getr 166 rfl dX10_init_163 fl_X10_11 (kS_o 0 (Nat.le_of_ble_eq_true rfl) rfl) (kS_f 0 0 1 (by decide +kernel)) ?_
  refine gv_iload_n 167 rfl dX10_init_166 rfl ?_
  refine ks_new 170 rfl 83 rfl 82 rfl 8194 rfl dX10_init_167 nw_X10_9 (by decide) rfl (by decide +kernel) ⟨Nat.le_of_ble_eq_true rfl, Nat.le_of_ble_eq_true rfl⟩ ?_
  refine gv_dup 171 rfl dX10_init_170 rfl ?_
  refine ks_call 174 rfl 84 82 83 rfl 8386 rfl rfl dX10_init_171 mI_X5_init mi_X10_15 ⟨Nat.le_of_ble_eq_true rfl, Nat.le_of_ble_eq_true rfl⟩ (Nat.le_of_ble_eq_true rfl) ⟨Nat.le_of_ble_eq_true rfl, Nat.le_of_ble_eq_true rfl⟩ (K_X5 hG 82 (Nat.le_of_ble_eq_true rfl) rfl rfl (Nat.le_of_ble_eq_true rfl) (by decide +kernel) (by decide +kernel)) ?_
  refine ks_aast (i := 1) (b := 82) 175 rfl 83 rfl dX10_init_174 (Nat.le_of_ble_eq_true rfl) rfl (Nat.le_of_ble_eq_true rfl) rfl ⟨by decide, by decide⟩ (by decide) rfl (by decide +kernel) ?_
  refine gv_iinc 178 rfl dX10_init_175 (Nat.le_of_ble_eq_true rfl) rfl rfl ?_
  refine gv_goto 156 dX10_init_178 rfl ?_
  refine gv_iload_n 157 rfl dX10_init_156 rfl ?_
  refine gv_bipush 159 rfl dX10_init_157 rfl ?_
  refine gv_icmp_ge 181 162 rfl dX10_init_159 rfl (by decide) (by decide) (fun h => absurd h (by decide)) (fun _ => ?_)
  refine gv_aload_n 163 rfl dX10_init_162 rfl ?_
  refine kv_getr 166 rfl dX10_init_163 fl_X10_11 (kS_o 0 (Nat.le_of_ble_eq_true rfl) rfl) (kS_f 0 0 1 (by decide +kernel)) ?_
  refine gv_iload_n 167 rfl dX10_init_166 rfl ?_
  refine ks_new 170 rfl 85 rfl 84 rfl 8389 rfl dX10_init_167 nw_X10_9 (by decide) rfl (by decide +kernel) ⟨Nat.le_of_ble_eq_true rfl, Nat.le_of_ble_eq_true rfl⟩ ?_
  refine gv_dup 171 rfl dX10_init_170 rfl ?_
  refine ks_call 174 rfl 86 84 85 rfl 8581 rfl rfl dX10_init_171 mI_X5_init mi_X10_15 ⟨Nat.le_of_ble_eq_true rfl, Nat.le_of_ble_eq_true rfl⟩ (Nat.le_of_ble_eq_true rfl) ⟨Nat.le_of_ble_eq_true rfl, Nat.le_of_ble_eq_true rfl⟩ (K_X5 hG 84 (Nat.le_of_ble_eq_true rfl) rfl rfl (Nat.le_of_ble_eq_true rfl) (by decide +kernel) (by decide +kernel)) ?_
  refine ks_aast (i := 1) (b := 84) 175 rfl 85 rfl dX10_init_174 (Nat.le_of_ble_eq_true rfl) rfl (Nat.le_of_ble_eq_true rfl) rfl ⟨by decide, by decide⟩ (by decide) rfl (by decide +kernel) ?_
  refine gv_iinc 178 rfl dX10_init_175 (Nat.le_of_ble_eq_true rfl) rfl rfl ?_
  refine gv_goto 156 dX10_init_178 rfl ?_
  refine gv_iload_n 157 rfl dX10_init_156 rfl ?_
  refine gv_bipush 159 rfl dX10_init_157 rfl ?_
  refine gv_icmp_ge 181 162 rfl dX10_init_159 rfl (by decide) (by decide) (fun _ => ?_) (fun h => absurd (by decide) h)
  exact kv_ret dX10_init_181 rfl rfl (by omega) rfl (Nat.le_of_ble_eq_true rfl)
