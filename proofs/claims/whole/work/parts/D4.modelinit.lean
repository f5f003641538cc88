/-! ===== the model's constructor ===== -/
theorem kc11_44 : zkc RX11 44 34086 := zt_t 1064 (by decide +kernel) rfl
def kM (C n t : Nat) : zSh := (List.range' C n, fun a => zm_k.getD (a - C) (99, 0), fun a k => if a = C then ((zm_r.take t).lookup k).map (fun b => C + b) else none)
theorem kM_o0 {C n t : Nat} (h : 0 < n) : zo (kM C n t) C 11 0 := by
  refine ⟨by simp [kM]; omega, ?_⟩
  simp [kM, zm_k]
theorem kM_push (C n t : Nat) : (((kM C n t).1 ++ [C + n], (kM C n t).2.1, (kM C n t).2.2) : zSh) = kM C (n + 1) t := by
  simp only [kM]
  rw [List.range'_concat]
  simp
theorem kM_k {C n t c m : Nat} (h : zm_k[n]? = some (c, m)) : (kM C n t).2.1 (C + n) = (c, m) := by simp [kM, List.getD, h]
theorem kM_last {C n t : Nat} (h : 0 < n) : ∃ x, x ∈ (kM C n t).1 ∧ x + 1 = C + n := ⟨C + n - 1, by simp [kM]; omega, by omega⟩
theorem kM_put {C n t b j : Nat} (h : zm_r[t]? = some (j, b)) (hj : (zm_r.take t).lookup j = none) : (kM C n (t + 1)).2.2 = zq (kM C n t).2.2 C j (some (C + b)) := by
  funext a k
  show (if a = C then ((zm_r.take (t + 1)).lookup k).map (fun b => C + b) else none) = if a = C ∧ k = j then some (C + b) else if a = C then ((zm_r.take t).lookup k).map (fun b => C + b) else none
  by_cases ha : a = C
  · rw [if_pos ha, if_pos ha, List.take_succ, h, List.lookup_append]
    by_cases hk : k = j
    · subst hk
      rw [if_pos ⟨ha, rfl⟩, hj]
      simp
    · rw [if_neg (fun h => hk h.2)]
      simp [List.lookup, hk]
  · rw [if_neg ha, if_neg ha, if_neg (fun h => ha h.1)]
section KM
variable {G : zG} {M : zMt} {w' : zWd} {h mc ms n1 t n k : Nat} {pc : Nat} {lv : List (Option Value)} {st : List Value} {C : Nat} {σ : zSt}
theorem kv_ldc {Hh : gH} {idx : Nat} {c : Int} (q : Nat) (hq : pc + 2 = q) (hd : decode (zm_cc M) pc = .ok (.ldc idx, 2)) (hk : zkc (zm_y M).cls idx c) (kk : gV (kX G M w' h mc ms) Hh q lv (vi c :: st)) : gV (kX G M w' h mc ms) Hh pc lv st := by
  subst hq
  intro p l e s m args below meth c H locs ls cells slots hc hl hh
  have hcx := hc.2.2.1
  exact lv_ldc hc.1 hc.2.1 hcx.2.2.2.2.2.2.1 (hcx.2.2.2.2.2.1 _ (List.mem_cons_of_mem _ hk)) hd (kk p l e s m args below meth c H locs ls cells slots hc hl hh)
theorem km_newi {N : Nat} (q : Nat) (hq : pc + 2 = q) (n2 : Nat) (e2 : n1 + 1 = n2) (c2 : Nat) (e3 : n + 1 = c2) (k2 : Nat) (e4 : k + N = k2) (hd : decode (zm_cc M) pc = .ok (.newarray .int, 2)) (hN : N < 20000000) (hS : zm_k[n1]? = some (12, N)) (hσ : n1 = n1) (hm : c2 ≤ mc ∧ k2 ≤ ms) (kk : gV (kX G M w' h mc ms) (kH G (kM C n2 t, zu z0 C 2 (-1), z0) (C + n2) c2 k2) q lv (.ref (C + n1) :: st)) (h0 : 0 < n1 := by omega) : gV (kX G M w' h mc ms) (kH G (kM C n1 t, zu z0 C 2 (-1), z0) (C + n1) n k) pc lv (vi (N : Int) :: st) := by
  subst e2; subst e3; subst e4
  refine kv_newi q hq hd hN (kM_k hS) (zu_row z0 (-1) (by omega)) hm ?_
  rw [kM_push]
  exact kk
theorem km_newl {N : Nat} (q : Nat) (hq : pc + 2 = q) (n2 : Nat) (e2 : n1 + 1 = n2) (c2 : Nat) (e3 : n + 1 = c2) (k2 : Nat) (e4 : k + N = k2) (hd : decode (zm_cc M) pc = .ok (.newarray .long, 2)) (hN : N < 20000000) (hS : zm_k[n1]? = some (13, N)) (hm : c2 ≤ mc ∧ k2 ≤ ms) (kk : gV (kX G M w' h mc ms) (kH G (kM C n2 t, σ, z0) (C + n2) c2 k2) q lv (.ref (C + n1) :: st)) : gV (kX G M w' h mc ms) (kH G (kM C n1 t, σ, z0) (C + n1) n k) pc lv (vi (N : Int) :: st) := by
  subst e2; subst e3; subst e4
  refine kv_newl q hq hd hN (kM_k hS) rfl hm ?_
  rw [kM_push]
  exact kk
theorem km_put {idx j b : Nat} (q : Nat) (hq : pc + 3 = q) (t2 : Nat) (e2 : t + 1 = t2) (hd : decode (zm_cc M) pc = .ok (.putfield idx, 3)) (hf : zff (zm_y M).cls idx 11 j) (hi : 0 < n1) (hu : zm_r[t]? = some (j, b)) (hj : (zm_r.take t).lookup j = none) (kk : gV (kX G M w' h mc ms) (kH G (kM C n1 t2, σ, z0) (C + n1) n k) q lv st) : gV (kX G M w' h mc ms) (kH G (kM C n1 t, σ, z0) (C + n1) n k) pc lv (.ref (C + b) :: .ref C :: st) := by
  subst e2
  exact kv_put (S := kM C n1 t) (ρ' := (kM C n1 (t + 1)).2.2) q hq hd hf (kM_o0 hi) (kM_last (by omega)) (kM_put hu hj) kk
end KM
theorem K_X11 {G : zG} {C : Nat} (hG : ∀ q, C ≤ q → zgA G q) : kC G M_X11_init [.ref C] (kM C 1 0, z0, z0) (C + 1) (kM C 24 23, zu z0 C 2 (-1), z0) 23 118370 := by
  refine kC_of 0 rfl (Nat.le_of_ble_eq_true rfl) (fun q hq => hG q (by omega)) rfl ?_
  refine gv_aload_n 1 rfl dX11_init_0 rfl ?_
  refine kv_obj 4 rfl dX11_init_1 ob_X11_1 ⟨Nat.le_of_ble_eq_true rfl, Nat.le_of_ble_eq_true rfl⟩ ?_
  refine gv_aload_n 5 rfl dX11_init_4 rfl ?_
  refine gv_iconst 6 rfl dX11_init_5 ?_
  refine kv_puti (S := kM C 1 0) (a := C) 9 rfl dX11_init_6 fi_X11_9 (kM_o0 (by omega)) (kM_last (by omega)) ?_
  refine gv_aload_n 10 rfl dX11_init_9 rfl ?_
  refine gv_sipush 13 rfl dX11_init_10 rfl ?_
  refine km_newi (N := 700) 15 rfl 2 rfl 1 rfl 700 rfl dX11_init_13 (Nat.le_of_ble_eq_true rfl) rfl rfl ⟨Nat.le_of_ble_eq_true rfl, Nat.le_of_ble_eq_true rfl⟩ ?_
  refine km_put (j := 3) (b := 1) 18 rfl 1 rfl dX11_init_15 ff_X11_13 (by omega) rfl rfl ?_
  refine gv_aload_n 19 rfl dX11_init_18 rfl ?_
  refine gv_iconst 20 rfl dX11_init_19 ?_
  refine km_newi (N := 4) 22 rfl 3 rfl 2 rfl 704 rfl dX11_init_20 (Nat.le_of_ble_eq_true rfl) rfl rfl ⟨Nat.le_of_ble_eq_true rfl, Nat.le_of_ble_eq_true rfl⟩ ?_
  refine km_put (j := 12) (b := 2) 25 rfl 2 rfl dX11_init_22 ff_X11_17 (by omega) rfl rfl ?_
  refine gv_aload_n 26 rfl dX11_init_25 rfl ?_
  refine gv_iconst 27 rfl dX11_init_26 ?_
  refine km_newi (N := 4) 29 rfl 4 rfl 3 rfl 708 rfl dX11_init_27 (Nat.le_of_ble_eq_true rfl) rfl rfl ⟨Nat.le_of_ble_eq_true rfl, Nat.le_of_ble_eq_true rfl⟩ ?_
  refine km_put (j := 13) (b := 3) 32 rfl 3 rfl dX11_init_29 ff_X11_20 (by omega) rfl rfl ?_
  refine gv_aload_n 33 rfl dX11_init_32 rfl ?_
  refine gv_iconst 34 rfl dX11_init_33 ?_
  refine km_newi (N := 4) 36 rfl 5 rfl 4 rfl 712 rfl dX11_init_34 (Nat.le_of_ble_eq_true rfl) rfl rfl ⟨Nat.le_of_ble_eq_true rfl, Nat.le_of_ble_eq_true rfl⟩ ?_
  refine km_put (j := 14) (b := 4) 39 rfl 4 rfl dX11_init_36 ff_X11_23 (by omega) rfl rfl ?_
  refine gv_aload_n 40 rfl dX11_init_39 rfl ?_
  refine gv_iconst 41 rfl dX11_init_40 ?_
  refine km_newi (N := 4) 43 rfl 6 rfl 5 rfl 716 rfl dX11_init_41 (Nat.le_of_ble_eq_true rfl) rfl rfl ⟨Nat.le_of_ble_eq_true rfl, Nat.le_of_ble_eq_true rfl⟩ ?_
  refine km_put (j := 15) (b := 5) 46 rfl 5 rfl dX11_init_43 ff_X11_26 (by omega) rfl rfl ?_
  refine gv_aload_n 47 rfl dX11_init_46 rfl ?_
  refine gv_sipush 50 rfl dX11_init_47 rfl ?_
  refine km_newi (N := 768) 52 rfl 7 rfl 6 rfl 1484 rfl dX11_init_50 (Nat.le_of_ble_eq_true rfl) rfl rfl ⟨Nat.le_of_ble_eq_true rfl, Nat.le_of_ble_eq_true rfl⟩ ?_
  refine km_put (j := 16) (b := 6) 55 rfl 6 rfl dX11_init_52 ff_X11_29 (by omega) rfl rfl ?_
  refine gv_aload_n 56 rfl dX11_init_55 rfl ?_
  refine gv_bipush 58 rfl dX11_init_56 rfl ?_
  refine km_newi (N := 64) 60 rfl 8 rfl 7 rfl 1548 rfl dX11_init_58 (Nat.le_of_ble_eq_true rfl) rfl rfl ⟨Nat.le_of_ble_eq_true rfl, Nat.le_of_ble_eq_true rfl⟩ ?_
  refine km_put (j := 17) (b := 7) 63 rfl 7 rfl dX11_init_60 ff_X11_32 (by omega) rfl rfl ?_
  refine gv_aload_n 64 rfl dX11_init_63 rfl ?_
  refine gv_iconst 65 rfl dX11_init_64 ?_
  refine km_newi (N := 4) 67 rfl 9 rfl 8 rfl 1552 rfl dX11_init_65 (Nat.le_of_ble_eq_true rfl) rfl rfl ⟨Nat.le_of_ble_eq_true rfl, Nat.le_of_ble_eq_true rfl⟩ ?_
  refine km_put (j := 18) (b := 8) 70 rfl 8 rfl dX11_init_67 ff_X11_35 (by omega) rfl rfl ?_
  refine gv_aload_n 71 rfl dX11_init_70 rfl ?_
  refine gv_sipush 74 rfl dX11_init_71 rfl ?_
  refine km_newi (N := 1552) 76 rfl 10 rfl 9 rfl 3104 rfl dX11_init_74 (Nat.le_of_ble_eq_true rfl) rfl rfl ⟨Nat.le_of_ble_eq_true rfl, Nat.le_of_ble_eq_true rfl⟩ ?_
  refine km_put (j := 21) (b := 9) 79 rfl 9 rfl dX11_init_76 ff_X11_38 (by omega) rfl rfl ?_
  refine gv_aload_n 80 rfl dX11_init_79 rfl ?_
  refine gv_sipush 83 rfl dX11_init_80 rfl ?_
  refine km_newi (N := 11640) 85 rfl 11 rfl 10 rfl 14744 rfl dX11_init_83 (Nat.le_of_ble_eq_true rfl) rfl rfl ⟨Nat.le_of_ble_eq_true rfl, Nat.le_of_ble_eq_true rfl⟩ ?_
  refine km_put (j := 22) (b := 10) 88 rfl 10 rfl dX11_init_85 ff_X11_41 (by omega) rfl rfl ?_
  refine gv_aload_n 89 rfl dX11_init_88 rfl ?_
  refine kv_ldc (c := 34086) 91 rfl dX11_init_89 kc11_44 ?_
  refine km_newl (N := 34086) 93 rfl 12 rfl 11 rfl 48830 rfl dX11_init_91 (Nat.le_of_ble_eq_true rfl) rfl ⟨Nat.le_of_ble_eq_true rfl, Nat.le_of_ble_eq_true rfl⟩ ?_
  refine km_put (j := 24) (b := 11) 96 rfl 11 rfl dX11_init_93 ff_X11_45 (by omega) rfl rfl ?_
  refine gv_aload_n 97 rfl dX11_init_96 rfl ?_
  refine kv_ldc (c := 34086) 99 rfl dX11_init_97 kc11_44 ?_
  refine km_newl (N := 34086) 101 rfl 13 rfl 12 rfl 82916 rfl dX11_init_99 (Nat.le_of_ble_eq_true rfl) rfl ⟨Nat.le_of_ble_eq_true rfl, Nat.le_of_ble_eq_true rfl⟩ ?_
  refine km_put (j := 25) (b := 12) 104 rfl 12 rfl dX11_init_101 ff_X11_49 (by omega) rfl rfl ?_
  refine gv_aload_n 105 rfl dX11_init_104 rfl ?_
  refine gv_sipush 108 rfl dX11_init_105 rfl ?_
  refine km_newl (N := 17043) 110 rfl 14 rfl 13 rfl 99959 rfl dX11_init_108 (Nat.le_of_ble_eq_true rfl) rfl ⟨Nat.le_of_ble_eq_true rfl, Nat.le_of_ble_eq_true rfl⟩ ?_
  refine km_put (j := 26) (b := 13) 113 rfl 13 rfl dX11_init_110 ff_X11_52 (by omega) rfl rfl ?_
  refine gv_aload_n 114 rfl dX11_init_113 rfl ?_
  refine gv_sipush 117 rfl dX11_init_114 rfl ?_
  refine km_newl (N := 17043) 119 rfl 15 rfl 14 rfl 117002 rfl dX11_init_117 (Nat.le_of_ble_eq_true rfl) rfl ⟨Nat.le_of_ble_eq_true rfl, Nat.le_of_ble_eq_true rfl⟩ ?_
  refine km_put (j := 27) (b := 14) 122 rfl 14 rfl dX11_init_119 ff_X11_55 (by omega) rfl rfl ?_
  refine gv_aload_n 123 rfl dX11_init_122 rfl ?_
  refine gv_iconst 124 rfl dX11_init_123 ?_
  refine km_newi (N := 2) 126 rfl 16 rfl 15 rfl 117004 rfl dX11_init_124 (Nat.le_of_ble_eq_true rfl) rfl rfl ⟨Nat.le_of_ble_eq_true rfl, Nat.le_of_ble_eq_true rfl⟩ ?_
  refine km_put (j := 28) (b := 15) 129 rfl 15 rfl dX11_init_126 ff_X11_58 (by omega) rfl rfl ?_
  refine gv_aload_n 130 rfl dX11_init_129 rfl ?_
  refine gv_iconst 131 rfl dX11_init_130 ?_
  refine km_newi (N := 2) 133 rfl 17 rfl 16 rfl 117006 rfl dX11_init_131 (Nat.le_of_ble_eq_true rfl) rfl rfl ⟨Nat.le_of_ble_eq_true rfl, Nat.le_of_ble_eq_true rfl⟩ ?_
  refine km_put (j := 29) (b := 16) 136 rfl 16 rfl dX11_init_133 ff_X11_61 (by omega) rfl rfl ?_
  refine gv_aload_n 137 rfl dX11_init_136 rfl ?_
  refine gv_bipush 139 rfl dX11_init_137 rfl ?_
  refine km_newi (N := 6) 141 rfl 18 rfl 17 rfl 117012 rfl dX11_init_139 (Nat.le_of_ble_eq_true rfl) rfl rfl ⟨Nat.le_of_ble_eq_true rfl, Nat.le_of_ble_eq_true rfl⟩ ?_
  refine km_put (j := 30) (b := 17) 144 rfl 17 rfl dX11_init_141 ff_X11_64 (by omega) rfl rfl ?_
  refine gv_aload_n 145 rfl dX11_init_144 rfl ?_
  refine gv_sipush 148 rfl dX11_init_145 rfl ?_
  refine km_newi (N := 194) 150 rfl 19 rfl 18 rfl 117206 rfl dX11_init_148 (Nat.le_of_ble_eq_true rfl) rfl rfl ⟨Nat.le_of_ble_eq_true rfl, Nat.le_of_ble_eq_true rfl⟩ ?_
  refine km_put (j := 31) (b := 18) 153 rfl 18 rfl dX11_init_150 ff_X11_67 (by omega) rfl rfl ?_
  refine gv_aload_n 154 rfl dX11_init_153 rfl ?_
  refine gv_sipush 157 rfl dX11_init_154 rfl ?_
  refine km_newi (N := 192) 159 rfl 20 rfl 19 rfl 117398 rfl dX11_init_157 (Nat.le_of_ble_eq_true rfl) rfl rfl ⟨Nat.le_of_ble_eq_true rfl, Nat.le_of_ble_eq_true rfl⟩ ?_
  refine km_put (j := 39) (b := 19) 162 rfl 19 rfl dX11_init_159 ff_X11_70 (by omega) rfl rfl ?_
  refine gv_aload_n 163 rfl dX11_init_162 rfl ?_
  refine gv_sipush 166 rfl dX11_init_163 rfl ?_
  refine km_newi (N := 192) 168 rfl 21 rfl 20 rfl 117590 rfl dX11_init_166 (Nat.le_of_ble_eq_true rfl) rfl rfl ⟨Nat.le_of_ble_eq_true rfl, Nat.le_of_ble_eq_true rfl⟩ ?_
  refine km_put (j := 41) (b := 20) 171 rfl 20 rfl dX11_init_168 ff_X11_73 (by omega) rfl rfl ?_
  refine gv_aload_n 172 rfl dX11_init_171 rfl ?_
  refine gv_sipush 175 rfl dX11_init_172 rfl ?_
  refine km_newi (N := 192) 177 rfl 22 rfl 21 rfl 117782 rfl dX11_init_175 (Nat.le_of_ble_eq_true rfl) rfl rfl ⟨Nat.le_of_ble_eq_true rfl, Nat.le_of_ble_eq_true rfl⟩ ?_
  refine km_put (j := 42) (b := 21) 180 rfl 21 rfl dX11_init_177 ff_X11_76 (by omega) rfl rfl ?_
  refine gv_aload_n 181 rfl dX11_init_180 rfl ?_
  refine gv_sipush 184 rfl dX11_init_181 rfl ?_
  refine km_newi (N := 204) 186 rfl 23 rfl 22 rfl 117986 rfl dX11_init_184 (Nat.le_of_ble_eq_true rfl) rfl rfl ⟨Nat.le_of_ble_eq_true rfl, Nat.le_of_ble_eq_true rfl⟩ ?_
  refine km_put (j := 43) (b := 22) 189 rfl 22 rfl dX11_init_186 ff_X11_79 (by omega) rfl rfl ?_
  refine gv_aload_n 190 rfl dX11_init_189 rfl ?_
  refine gv_sipush 193 rfl dX11_init_190 rfl ?_
  refine km_newi (N := 384) 195 rfl 24 rfl 23 rfl 118370 rfl dX11_init_193 (Nat.le_of_ble_eq_true rfl) rfl rfl ⟨Nat.le_of_ble_eq_true rfl, Nat.le_of_ble_eq_true rfl⟩ ?_
  refine km_put (j := 45) (b := 23) 198 rfl 23 rfl dX11_init_195 ff_X11_82 (by omega) rfl rfl ?_
  exact kv_ret dX11_init_198 rfl rfl (by omega) rfl (Nat.le_of_ble_eq_true rfl)
