/-! ===== the law's start ===== -/
def zA0 : zA := (fun _ => (0, 0, fun _ _ => 0), [], [], (0, -1, 0), [], none, [])
theorem zxR_0 (B : Nat) : zxR B z0 z0 zA0 := by
  have hp : ∀ a, xrPic z0 a (0, 0, fun _ _ => 0) := fun a => ⟨by simp [zPW, z0], rfl, fun h => absurd h (by decide)⟩
  refine ⟨fun i _ => hp _, ⟨by simp [z0], rfl, Nat.zero_le _, trivial⟩, ⟨rfl, Nat.zero_le _, fun i hi => absurd hi (Nat.not_lt_zero _)⟩, ⟨rfl, rfl, rfl, by decide⟩, ⟨rfl, Nat.zero_le _, fun i hi => absurd hi (Nat.not_lt_zero _)⟩, rfl, ⟨rfl, Nat.zero_le _, fun i hi => absurd hi (Nat.not_lt_zero _)⟩⟩
theorem zmR_0 (C : Nat) : zmR C (zu z0 C 2 (-1)) z0 zA0 := by
  have e : ∀ a, a ≠ C → zu z0 C 2 (-1) a = fun _ => 0 := fun a ha => by rw [zu_row z0 (-1) ha]; rfl
  have e2 : ∀ j, j ≠ 2 → zu z0 C 2 (-1) C j = 0 := fun j hj => by rw [zu_k z0 (-1) hj]; rfl
  refine ⟨fun i _ => ?_, ⟨e2 23 (by decide), Nat.zero_le _, fun i hi => absurd hi (Nat.not_lt_zero _)⟩, ⟨e2 4 (by decide), Nat.zero_le _, fun i hi => absurd hi (Nat.not_lt_zero _)⟩, ⟨e2 1 (by decide), zu_eq _ _ _ _, e2 7 (by decide)⟩, ⟨e2 20 (by decide), Nat.zero_le _, fun i hi => absurd hi (Nat.not_lt_zero _)⟩, e2 32 (by decide), ⟨e2 44 (by decide), Nat.zero_le _, fun i hi => absurd hi (Nat.not_lt_zero _)⟩⟩
  rw [e _ (by omega)]
  exact (⟨rfl, by decide, fun h => absurd h (by decide)⟩ : mrPic (fun _ => 0) (0 + 194 * i) (0, 0, fun _ _ => 0))
theorem lk_E : ∀ j : Nat, j < 28 → (Cond.eq (.elem (.static "ShadeGrid$Lattice" "ECHOES" "[I") (.int (Int32.ofNat j))) (.int (zI (z_ech j)))) ∈ flatC (Jvm.Cond.and given_1 narrow_1) := by decide +kernel
theorem lk_P : ∀ j : Nat, j < 6 → (Cond.eq (.elem (.static "ShadeGrid$Pairs" "GAPS" "[I") (.int (Int32.ofNat j))) (.int (zI (z_gap j)))) ∈ flatC (Jvm.Cond.and given_1 narrow_1) := by decide +kernel
theorem lk_sta {s : State} {b : Nat} (hts : ∀ w ∈ lw_tbl, w.before #[Value.ref b] s = true) (hgv : (Jvm.Cond.and given_1 narrow_1).before #[Value.ref b] s = true) (D : va_G) (cs : ClassId × ClassId × ClassId) : ∃ tE tP : Nat, zSta (D, cs, (fun q => s.heap.size ≤ q), (tE, tP)) s s.heap := by
  have hs := flat_of_before _ hgv
  have hA : ∀ a : Nat, a < s.heap.size → ¬ (fun q => s.heap.size ≤ q) a := fun a h => Nat.not_le.mpr h
  have tb : ∀ w ∈ zt_tbl, w.before #[Value.ref b] s = true := fun w hw => hts w (List.mem_filter.mp hw).1
  obtain ⟨tE, e1, e2⟩ := va_Tof (A := fun q => s.heap.size ≤ q) (ty := .int) (N := 28) (f := fun j => vi (z_ech j)) (tm := .static "ShadeGrid$Lattice" "ECHOES" "[I") (by decide) (hs _ (by decide +kernel)) (va_eqt (hs (.eq (.length (.static "ShadeGrid$Lattice" "ECHOES" "[I")) (.int (28 : Int32))) (by decide +kernel))) (fun j hj => va_eqt (hs _ (lk_E j hj))) hA
  obtain ⟨tP, p1, p2⟩ := va_Tof (A := fun q => s.heap.size ≤ q) (ty := .int) (N := 6) (f := fun j => vi (z_gap j)) (tm := .static "ShadeGrid$Pairs" "GAPS" "[I") (by decide) (hs _ (by decide +kernel)) (va_eqt (hs (.eq (.length (.static "ShadeGrid$Pairs" "GAPS" "[I")) (.int (6 : Int32))) (by decide +kernel))) (fun j hj => va_eqt (hs _ (lk_P j hj))) hA
  exact ⟨tE, tP, va_Zof (hts _ (List.mem_append_right _ (List.mem_of_getElem? (i := 634) (by decide +kernel)))) (tb _ (zt_t 7 (by decide +kernel) rfl)) e1 hA, e2, va_Zof (hts _ (List.mem_append_right _ (List.mem_of_getElem? (i := 936) (by decide +kernel)))) (tb _ (zt_t 11 (by decide +kernel) rfl)) p1 hA, p2⟩
theorem lk_cls {s : State} {b : Nat} (hts : ∀ w ∈ lw_tbl, w.before #[Value.ref b] s = true) : ∃ D : va_G, ∀ (c : Nat) (q : vw_C), vwCl[c]? = some q → u_Kn s q.1 q.2.1 q.2.2 (D.1 c) (D.2 c) := by
  have tb : ∀ w ∈ zt_tbl, w.before #[Value.ref b] s = true := fun w hw => hts w (List.mem_filter.mp hw).1
  obtain ⟨c0, i0, k0⟩ := u_known (C := RX0) (T := TX0) (N := 4) (n := 4) tb zcX0.2.1 (tb _ (zt_t 63 (by decide +kernel) rfl))
  obtain ⟨c1, i1, k1⟩ := u_known (C := RX1) (T := TX1) (N := 9) (n := 9) tb zcX1.2.1 (tb _ (zt_t 160 (by decide +kernel) rfl))
  obtain ⟨c2, i2, k2⟩ := u_known (C := RX2) (T := TX2) (N := 3) (n := 3) tb zcX2.2.1 (tb _ (zt_t 127 (by decide +kernel) rfl))
  obtain ⟨c3, i3, k3⟩ := u_known (C := RX3) (T := TX3) (N := 1) (n := 1) tb zcX3.2.1 (tb _ (zt_t 200 (by decide +kernel) rfl))
  obtain ⟨c4, i4, k4⟩ := u_known (C := RX4) (T := TX4) (N := 5) (n := 5) tb zcX4.2.1 (tb _ (zt_t 253 (by decide +kernel) rfl))
  obtain ⟨c5, i5, k5⟩ := u_known (C := RX5) (T := TX5) (N := 3) (n := 3) tb zcX5.2.1 (tb _ (zt_t 31 (by decide +kernel) rfl))
  obtain ⟨c6, i6, k6⟩ := u_known (C := RX6) (T := TX6) (N := 5) (n := 5) tb zcX6.2.1 (tb _ (zt_t 229 (by decide +kernel) rfl))
  obtain ⟨c7, i7, k7⟩ := u_known (C := RX7) (T := TX7) (N := 3) (n := 3) tb zcX7.2.1 (tb _ (zt_t 211 (by decide +kernel) rfl))
  obtain ⟨c8, i8, k8⟩ := u_known (C := RX8) (T := TX8) (N := 7) (n := 7) tb zcX8.2.1 (tb _ (zt_t 87 (by decide +kernel) rfl))
  obtain ⟨c9, i9, k9⟩ := u_known (C := RX9) (T := TX9) (N := 3) (n := 3) tb zcX9.2.1 (tb _ (zt_t 120 (by decide +kernel) rfl))
  obtain ⟨c10, i10, k10⟩ := u_known (C := RX10) (T := TX10) (N := 18) (n := 18) tb zcX10.2.1 (tb _ (zt_t 22 (by decide +kernel) rfl))
  obtain ⟨c11, i11, k11⟩ := u_known (C := RX11) (T := TX11) (N := 47) (n := 47) tb zcX11.2.1 (tb _ (zt_t 1059 (by decide +kernel) rfl))
  refine ⟨(fun k => match k with | 0 => c0 | 1 => c1 | 2 => c2 | 3 => c3 | 4 => c4 | 5 => c5 | 6 => c6 | 7 => c7 | 8 => c8 | 9 => c9 | 10 => c10 | _ => c11, fun k => match k with | 0 => i0 | 1 => i1 | 2 => i2 | 3 => i3 | 4 => i4 | 5 => i5 | 6 => i6 | 7 => i7 | 8 => i8 | 9 => i9 | 10 => i10 | _ => i11), fun c q hq => ?_⟩
  match c, hq with
  | 0, hq => cases hq; exact k0
  | 1, hq => cases hq; exact k1
  | 2, hq => cases hq; exact k2
  | 3, hq => cases hq; exact k3
  | 4, hq => cases hq; exact k4
  | 5, hq => cases hq; exact k5
  | 6, hq => cases hq; exact k6
  | 7, hq => cases hq; exact k7
  | 8, hq => cases hq; exact k8
  | 9, hq => cases hq; exact k9
  | 10, hq => cases hq; exact k10
  | 11, hq => cases hq; exact k11
  | c + 12, hq => simp [vwCl] at hq
theorem lk_G {s : State} {b : Nat} (hts : ∀ w ∈ lw_tbl, w.before #[Value.ref b] s = true) (hgv : (Jvm.Cond.and given_1 narrow_1).before #[Value.ref b] s = true) : ∃ G : zG, zgA G = (fun q => s.heap.size ≤ q) ∧ va_K (zgD G) vwCl (zg_tys G) s ∧ (∀ n ∈ zn_tbl, va_Nw n s) ∧ zSta G s s.heap ∧ va_AO "ShadeGrid$Picture" s := by
  have tb : ∀ w ∈ zt_tbl, w.before #[Value.ref b] s = true := fun w hw => hts w (List.mem_filter.mp hw).1
  obtain ⟨D, hD⟩ := lk_cls hts
  obtain ⟨cI, kI, pI, i1, i2, i3⟩ := Cond.arrayClass_spec (tb _ zac_i)
  obtain ⟨cL, kL, pL, l1, l2, l3⟩ := Cond.arrayClass_spec (tb _ zac_l)
  have hover := hts (Cond.arrayOver (.object "ShadeGrid$Picture")) (List.mem_append_right _ (List.mem_of_getElem? (i := 30) (by decide +kernel)))
  obtain ⟨comp, cQ, kQ, q1, q2, q3, q4, q5⟩ := Cond.arrayOver_spec hover
  obtain ⟨tE, tP, hZ⟩ := lk_sta hts hgv D (cI, cL, cQ)
  refine ⟨(D, (cI, cL, cQ), (fun q => s.heap.size ≤ q), (tE, tP)), rfl, ⟨hD, fun k q hk => ?_⟩, fun n hn => ?_, hZ, va_AO.of hover⟩
  · match k, hk with
    | 0, hk => cases hk; exact ⟨fun n z => ⟨fun k h => (by cases h), kI, i2, pI, i3⟩, i1⟩
    | 1, hk => cases hk; exact ⟨fun n z => ⟨fun k h => (by cases h), kL, l2, pL, l3⟩, l1⟩
    | 2, hk => cases hk; exact ⟨fun n z => ⟨fun k h => (by cases h), kQ, q3, comp, q4⟩, kQ, comp, q3, q4, q1, q5⟩
    | k + 3, hk => simp at hk
  · have h2 := List.mem_filter.mp hn
    refine va_Nw.of ?_ (hts n (List.mem_append_right _ h2.1))
    have h3 := h2.2
    cases n <;> first | rfl | simp [zi_nest] at h3
