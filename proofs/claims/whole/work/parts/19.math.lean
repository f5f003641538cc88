/-! ===== Math ===== -/
theorem zmm_i : Cond.initialized "java/lang/Math" ∈ zt_tbl := zt_t 13 (by decide +kernel) rfl
theorem zmm_cmax : Cond.code Lib.Math.max.name Lib.Math.max.code 2 (some .int) ∈ zt_tbl := zt_t 365 (by decide +kernel) rfl
theorem zmm_smax : Cond.static Lib.Math.max.name ∈ zt_tbl := zt_t 364 (by decide +kernel) rfl
theorem zmm_cmin : Cond.code Lib.Math.min.name Lib.Math.min.code 2 (some .int) ∈ zt_tbl := zt_t 362 (by decide +kernel) rfl
theorem zmm_smin : Cond.static Lib.Math.min.name ∈ zt_tbl := zt_t 361 (by decide +kernel) rfl
theorem zmm_cabs : Cond.code Lib.Math.abs.name Lib.Math.abs.code 1 (some .int) ∈ zt_tbl := zt_t 843 (by decide +kernel) rfl
theorem zmm_sabs : Cond.static Lib.Math.abs.name ∈ zt_tbl := zt_t 842 (by decide +kernel) rfl
section ZMM
variable {G : zG} {M : zMt} {Q : Option Value → zWd → Prop} {pc : Nat} {lv : List (Option Value)} {st : List Value} {w : zWd} {idx : Nat}
theorem zw_mmax {a b : Int} (q : Nat) (hq : pc + 3 = q) (hd : decode (zm_cc M) pc = .ok (.invokestatic idx, 3)) (hk : Cond.methodLink (zm_y M).cls idx Lib.Math.max.name ∈ zt_tbl) (hR : 1 ≤ zm_fr M ∧ (st.map fun v => v.category).sum + 13 ≤ zm_lw M) (ha : -2147483648 ≤ a ∧ a ≤ 2147483647) (hb : -2147483648 ≤ b ∧ b ≤ 2147483647) (k : zW G M Q q lv (vi (if a < b then b else a) :: st) w) : zW G M Q pc lv (vi b :: vi a :: st) w := by
  subst hq
  intro p l e s m args below meth c H locs ls hc hl hh
  have k := k p l e s m args below meth c H locs ls hc hl hh
  have tb : ∀ w ∈ zt_tbl, w.before args s = true := fun w hw => hc.2.2.2.2.2.1 w (List.mem_cons_of_mem _ hw)
  refine va_mmax hc.1 hc.2.1 (hc.2.2.1.trans hl.size.symm) hc.2.2.2.2.2.2.1 (tb _ hk) (tb _ zmm_smax) (tb _ zmm_i) (tb _ zmm_cmax) hR.1 hR.2 (Nat.le_refl _) (Nat.le_refl _) hd ?_
  have ee : (if zI a < zI b then zI b else zI a) = zI (if a < b then b else a) := by
    rw [apply_ite zI]
    simp only [zI_lt ha hb]
  rw [ee]
  exact k
theorem zw_mmin {a b : Int} (q : Nat) (hq : pc + 3 = q) (hd : decode (zm_cc M) pc = .ok (.invokestatic idx, 3)) (hk : Cond.methodLink (zm_y M).cls idx Lib.Math.min.name ∈ zt_tbl) (hR : 1 ≤ zm_fr M ∧ (st.map fun v => v.category).sum + 13 ≤ zm_lw M) (ha : -2147483648 ≤ a ∧ a ≤ 2147483647) (hb : -2147483648 ≤ b ∧ b ≤ 2147483647) (k : zW G M Q q lv (vi (if b < a then b else a) :: st) w) : zW G M Q pc lv (vi b :: vi a :: st) w := by
  subst hq
  intro p l e s m args below meth c H locs ls hc hl hh
  have k := k p l e s m args below meth c H locs ls hc hl hh
  have tb : ∀ w ∈ zt_tbl, w.before args s = true := fun w hw => hc.2.2.2.2.2.1 w (List.mem_cons_of_mem _ hw)
  refine va_mmin hc.1 hc.2.1 (hc.2.2.1.trans hl.size.symm) hc.2.2.2.2.2.2.1 (tb _ hk) (tb _ zmm_smin) (tb _ zmm_i) (tb _ zmm_cmin) hR.1 hR.2 (Nat.le_refl _) (Nat.le_refl _) hd ?_
  have ee : (if zI b < zI a then zI b else zI a) = zI (if b < a then b else a) := by
    rw [apply_ite zI]
    simp only [zI_lt hb ha]
  rw [ee]
  exact k
theorem zw_mabs {a : Int} (q : Nat) (hq : pc + 3 = q) (hd : decode (zm_cc M) pc = .ok (.invokestatic idx, 3)) (hk : Cond.methodLink (zm_y M).cls idx Lib.Math.abs.name ∈ zt_tbl) (hR : 1 ≤ zm_fr M ∧ (st.map fun v => v.category).sum + 13 ≤ zm_lw M) (ha : -2147483648 ≤ a ∧ a ≤ 2147483647) (k : zW G M Q q lv (vi (if 0 ≤ a then a else -a) :: st) w) : zW G M Q pc lv (vi a :: st) w := by
  subst hq
  intro p l e s m args below meth c H locs ls hc hl hh
  have k := k p l e s m args below meth c H locs ls hc hl hh
  have tb : ∀ w ∈ zt_tbl, w.before args s = true := fun w hw => hc.2.2.2.2.2.1 w (List.mem_cons_of_mem _ hw)
  refine va_mabs hc.1 hc.2.1 (hc.2.2.1.trans hl.size.symm) hc.2.2.2.2.2.2.1 (tb _ hk) (tb _ zmm_sabs) (tb _ zmm_i) (tb _ zmm_cabs) hR.1 hR.2 (Nat.le_refl _) (Nat.le_refl _) hd ?_
  have ee : (if 0 ≤ zI a then zI a else 0 - zI a) = zI (if 0 ≤ a then a else -a) := by
    rw [apply_ite zI, zI_0, zI_sub, show (0 : Int) - a = -a by omega]
    simp only [zI_le (by omega : -2147483648 ≤ (0:Int) ∧ (0:Int) ≤ 2147483647) ha]
  rw [ee]
  exact k
end ZMM
theorem kmX10_337 : Cond.methodLink RX10 337 Lib.Math.abs.name ∈ zt_tbl := zt_t 860 (by decide +kernel) rfl
theorem kmX10_342 : Cond.methodLink RX10 342 Lib.Math.max.name ∈ zt_tbl := zt_t 523 (by decide +kernel) rfl
theorem kmX10_417 : Cond.methodLink RX10 417 Lib.Math.min.name ∈ zt_tbl := zt_t 522 (by decide +kernel) rfl
theorem kmX0_33 : Cond.methodLink RX0 33 Lib.Math.min.name ∈ zt_tbl := zt_t 567 (by decide +kernel) rfl
theorem kmX0_39 : Cond.methodLink RX0 39 Lib.Math.max.name ∈ zt_tbl := zt_t 957 (by decide +kernel) rfl
theorem kmX2_33 : Cond.methodLink RX2 33 Lib.Math.min.name ∈ zt_tbl := zt_t 414 (by decide +kernel) rfl
theorem kmX4_45 : Cond.methodLink RX4 45 Lib.Math.min.name ∈ zt_tbl := zt_t 929 (by decide +kernel) rfl
theorem kmX4_50 : Cond.methodLink RX4 50 Lib.Math.max.name ∈ zt_tbl := zt_t 930 (by decide +kernel) rfl
theorem kmX5_22 : Cond.methodLink RX5 22 Lib.Math.min.name ∈ zt_tbl := zt_t 427 (by decide +kernel) rfl
theorem kmX5_28 : Cond.methodLink RX5 28 Lib.Math.max.name ∈ zt_tbl := zt_t 428 (by decide +kernel) rfl
theorem kmX5_44 : Cond.methodLink RX5 44 Lib.Math.abs.name ∈ zt_tbl := zt_t 841 (by decide +kernel) rfl
theorem kmX6_75 : Cond.methodLink RX6 75 Lib.Math.min.name ∈ zt_tbl := zt_t 895 (by decide +kernel) rfl
theorem kmX6_80 : Cond.methodLink RX6 80 Lib.Math.max.name ∈ zt_tbl := zt_t 896 (by decide +kernel) rfl
theorem kmX8_19 : Cond.methodLink RX8 19 Lib.Math.min.name ∈ zt_tbl := zt_t 360 (by decide +kernel) rfl
theorem kmX8_25 : Cond.methodLink RX8 25 Lib.Math.max.name ∈ zt_tbl := zt_t 363 (by decide +kernel) rfl
/-! ===== truth as a number ===== -/
def zb (P : Prop) [Decidable P] : Int := if P then 1 else 0
theorem zb_t {P : Prop} [Decidable P] (h : P) : 1 = zb P := (if_pos h).symm
theorem zb_f {P : Prop} [Decidable P] (h : ¬ P) : 0 = zb P := (if_neg h).symm
theorem zb_r (P : Prop) [Decidable P] : -2147483648 ≤ zb P ∧ zb P ≤ 2147483647 := by unfold zb; split <;> omega
theorem zb_01 (P : Prop) [Decidable P] : zb P = 0 ∨ zb P = 1 := by unfold zb; split <;> omega
theorem zb_c {P P' : Prop} [Decidable P] [Decidable P'] (h : P ↔ P') : zb P = zb P' := by unfold zb; by_cases p : P <;> simp [p, h.mp, show P' ↔ P from h.symm]
section ZB
variable {G : zG} {M : zMt} {Q : Option Value → zWd → Prop} {pc : Nat} {lv : List (Option Value)} {st : List Value} {w : zWd} {off : Int}
theorem zw_if_eqB {P : Prop} [Decidable P] (tgt q : Nat) (hq : pc + 3 = q) (hd : decode (zm_cc M) pc = .ok (.ifCond .eq off, 3)) (ht : (pc : Int) + off = (tgt : Int)) (kt : ¬ P → zW G M Q tgt lv st w) (kf : P → zW G M Q q lv st w) : zW G M Q pc lv (vi (zb P) :: st) w :=
  zw_if_eq tgt q hq hd ht (zb_r P) (fun h => kt (fun p => by rw [← zb_t p] at h; omega)) (fun h => kf (Decidable.byContradiction fun p => h (zb_f p).symm))
theorem zw_if_neB {P : Prop} [Decidable P] (tgt q : Nat) (hq : pc + 3 = q) (hd : decode (zm_cc M) pc = .ok (.ifCond .ne off, 3)) (ht : (pc : Int) + off = (tgt : Int)) (kt : P → zW G M Q tgt lv st w) (kf : ¬ P → zW G M Q q lv st w) : zW G M Q pc lv (vi (zb P) :: st) w :=
  zw_if_ne tgt q hq hd ht (zb_r P) (fun h => kt (Decidable.byContradiction fun p => h (zb_f p).symm)) (fun h => kf (fun p => by rw [← zb_t p] at h; omega))
end ZB
/-! ===== counting loops ===== -/
def zfold {α : Type} (f : Nat → α → α) : Nat → α → α
  | 0, a => a
  | n + 1, a => f n (zfold f n a)
theorem zfold_cong {α : Type} {f g : Nat → α → α} : ∀ (n : Nat) (a : α), (∀ i b, i < n → f i b = g i b) → zfold f n a = zfold g n a
  | 0, _, _ => rfl
  | n + 1, a, h => by simp only [zfold]; rw [zfold_cong n a (fun i b hi => h i b (by omega)), h n _ (Nat.lt_succ_self n)]
theorem zfold_add {α : Type} (f : Nat → α → α) (m : Nat) : ∀ (n : Nat) (a : α), zfold f (m + n) a = zfold (fun i => f (m + i)) n (zfold f m a)
  | 0, _ => rfl
  | n + 1, a => by show f (m + n) (zfold f (m + n) a) = f (m + n) _; rw [zfold_add f m n a]
/-- row by row: the same as all of them in a row -/
theorem zfold_rows {α : Type} (f : Nat → α → α) (w : Nat) : ∀ (h : Nat) (a : α), zfold f (h * w) a = zfold (fun y => zfold (fun x => f (y * w + x)) w) h a
  | 0, _ => by simp [zfold]
  | h + 1, a => by rw [Nat.succ_mul, zfold_add, zfold_rows f w h a]; rfl
