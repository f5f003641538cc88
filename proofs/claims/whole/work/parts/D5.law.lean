/-! THE CLAIM OUT OF ONE WALK OF THE LAW'S BODY. Your part is whole_start (and what it stands on); all else here is the same for every law, but numbers. -/
def R_law : String := "ShadeGridLaw"
def lw_P (b : Addr) (xs : List Int32) (args : Array Value) (s : State) : Prop := args = #[.ref b] ∧ s.IntsAt b xs ∧ xs.length ≤ 3584 ∧ (Jvm.Cond.and given_1 narrow_1).before args s = true
def lw_Q (_ : Array Value) (s : State) (o : Outcome) (t : State) : Prop := o = .returned (some (.int 1)) ∧ Framed s o t [] 601024 7293034
def lw_Z (below : List Frame) (a : Array Value) (s : State) : State → Prop := fun t => ∃ o, t.status = .running ∧ Ended t below o ∧ lw_Q a s o t
/-- the law's own end, with 1 on the stack, nothing written that was there before, its room as the claim has it -/
theorem lw_ret {p : Program} {l : Launch} {e : Env} {s : State} {m : MethodId} {below : List Frame} {meth : Method} {c : Code} {b : Nat} (hx : p.tables.exec = Jvm.exec) (hb : c.code = code) (hr : meth.sig.returnType = ret) (hlocks : meth.locks = false) {pc : Nat} {H : Heap} {ls : Array Slot} (hdg : decode code pc = .ok (.ireturn, 1)) : W p l e room_1 s m #[Value.ref b] below meth c H [] 601024 7293034 (lw_Z below #[Value.ref b] s) (F0 m pc ls [.int 1]) := by
  intro T hT X
  obtain ⟨fs, hret, hrun, hended, hW, hframe⟩ := X.leave (v := some (.int 1)) (hlocks := hlocks) (fun h => by rw [hr] at h; cases h)
  have hmeth' : T.vm.method? m = some meth := X.method'
  refine ⟨T.setFrames fs, ?_, .returned (some (.int 1)), hrun, hended, rfl, ⟨_, rfl⟩, hW, hframe⟩
  jvm_step X.here [X.here.top, hx, hb, hdg, hmeth', hr, ret, narrow_b1]
  (try refine ⟨rfl, ?_⟩); (try refine ⟨rfl, ?_⟩)
  first | (intro acts; rw [hret _ acts rfl rfl rfl]) | rw [hret _ _ rfl rfl rfl]
  exact Steps.refl _
/-- what holds at the law's entry: the machine, the code, the tables' words (any of lw_tbl by 'hts w (by decide +kernel)'), the script of L ints xs at the cell b, what the Statement gives of the start (any of its parts by flat_of_before) -/
def lw_At (p : Program) (s : State) (m : MethodId) (meth : Method) (c : Code) (b L : Nat) (xs : Nat → Int32) : Prop :=
  p.tables.exec = Jvm.exec ∧ c.code = code ∧ meth.sig.returnType = ret ∧ c.maxLocals = 7 ∧ s.vm.findClass R_law = some m.cls ∧ (∀ w ∈ lw_tbl, w.before #[Value.ref b] s = true) ∧ va_X b L xs s s.heap ∧ b < s.heap.size ∧ meth.locks = false ∧ (Jvm.Cond.and given_1 narrow_1).before #[Value.ref b] s = true
/-! ===== the law's point: a ShadeGrid at B, a ShadeGridModel at B + 86, a long[1] at B + 110 ===== -/
abbrev lGx (G : zG) (B : Nat) : zG := (G.1, G.2.1, (fun q => B ≤ q ∧ q < B + 86), G.2.2.2)
abbrev lGm (G : zG) (B : Nat) : zG := (G.1, G.2.1, (fun q => B + 86 ≤ q ∧ q < B + 110), G.2.2.2)
def lC (G : zG) (B b L : Nat) (xs : Nat → Int32) : Program → Launch → State → MethodId → Array Value → Method → Code → Prop := fun p l s m args meth c => args = #[.ref b] ∧ lw_At p s m meth c b L xs ∧ l.flags = flags0 ∧ va_K (zgD G) vwCl (zg_tys G) s ∧ (∀ n ∈ zn_tbl, va_Nw n s) ∧ zSta G s s.heap ∧ va_AO "ShadeGrid$Picture" s ∧ zgA G = (fun q => B ≤ q) ∧ s.heap.size = B
def lX (G : zG) (B b L : Nat) (xs : Nat → Int32) : gX := (code, 7, room_1, lC G B b L xs, fun below _ s => lw_Z below #[.ref b] s)
def lH (G : zG) (B : Nat) (σ τ σ2 τ2 : zSt) (u : Int) (cb sb : Nat) : gH := fun s H locs cells slots => va_P (zgD G) vwCl (z_ws G (zxS B, σ, τ)) H ∧ va_P (zgD G) vwCl (z_ws G (zmS (B + 86), σ2, τ2)) H ∧ H[B + 110]? = some (vp_cell G.2.1.2.1 (1, .inr (.inl (fun _ => zL u)))) ∧ va_S (fun q => B ≤ q) s.heap H locs ∧ cells ≤ cb ∧ slots ≤ sb ∧ cb ≤ 601024 ∧ sb ≤ 7293034
theorem zD_rng {A : Nat → Prop} {B n : Nat} {f : Nat → va_E} (hA : ∀ q, B ≤ q → q < B + n → A q) : va_D A (va_pl (List.range' B n) f) := by
  have key : ∀ (i : Nat) (p : Nat × va_E), (va_pl (List.range' B n) f)[i]? = some p → p.1 = B + i ∧ i < n := by
    intro i p h
    have hi : i < (va_pl (List.range' B n) f).length := (List.getElem?_eq_some_iff.mp h).1
    simp only [va_pl, List.length_map, List.length_range'] at hi
    simp only [va_pl, List.getElem?_map, List.getElem?_range' hi] at h
    simp at h
    rw [← h]
    exact ⟨rfl, hi⟩
  refine ⟨fun i j p q hp hq he => ?_, fun k q hq => ?_⟩
  · have h1 := key i p hp
    have h2 := key j q hq
    omega
  · have h1 := key k q hq
    exact hA _ (by omega) (by omega)
theorem zg_law {M' : zMt} (h : zm_B M') : GoodIn lw_tbl (zm_ws M') := by
  intro w hw
  have hg : w ∈ zt_tbl := by
    rcases List.mem_cons.mp hw with rfl | hw
    · exact h.1
    · exact hw
  exact ⟨(List.mem_filter.mp hg).1, good_of_word (List.mem_filter.mp hg).2⟩
theorem zSta.narrow {G : zG} {A : Nat → Prop} {U : State} {H : Heap} (h : zSta G U H) (hA : ∀ q, A q → zgA G q) : zSta (G.1, G.2.1, A, G.2.2.2) U H := ⟨h.1.narrow hA, h.2.1.narrow hA, h.2.2.1.narrow hA, h.2.2.2.narrow hA⟩
/-- entry idx of the law's file is the method M', of n arguments, of the class ci -/
def zkL (idx : Nat) (M' : zMt) (n ci : Nat) : Prop := zm_V M' ∧ Cond.methodLink RL idx (zm_y M') ∈ zt_tbl ∧ (zm_fr M' + 1 ≤ 10 ∧ 8 + (zm_nL M' + 11) + zm_lw M' ≤ 346) ∧ n = zm_n M' ∧ ci < 12 ∧ ∃ (T : u_T) (N : Nat), vwCl[ci]? = some ((zm_y M').cls, T, N)
section LC
variable {G : zG} {B b L : Nat} {xs : Nat → Int32} {σ τ σ2 τ2 : zSt} {u : Int} {cb sb : Nat} {pc : Nat} {lv : List (Option Value)} {st : List Value}
theorem l_frame {w : zWd} {A : Nat → Prop} {H H1 : Heap} {C n : Nat} (hw : w.1.1 = List.range' C n) (hP : va_P (zgD G) vwCl (z_ws G w) H) (hA : ∀ q, C ≤ q → q < C + n → ¬ A q) (hk : ∀ q : Nat, q < H.size → ¬ A q → H1[q]? = H[q]?) : va_P (zgD G) vwCl (z_ws G w) H1 := by
  intro k q hq
  have h0 := hP k q hq
  refine h0.kept (hk q.1 h0.lt ?_)
  have hm : q ∈ va_pl w.1.1 (z_cell G w) := List.mem_of_getElem? hq
  obtain ⟨a, ha, rfl⟩ := List.mem_map.mp hm
  rw [hw, List.mem_range'_1] at ha
  exact hA a ha.1 ha.2
theorem l_callx {M' : zMt} {Q' : Option Value → zWd → Prop} {rest : List Value} {idx : Nat} (As : List Value) (hd : decode code pc = .ok (.invokevirtual idx, 3)) (hk : zkL idx M' As.length 10) (hst : st = As.reverse ++ .ref B :: rest) (hw : (rest.map fun v => v.category).sum ≤ 8) (hC : zC (lGx G B) M' (.ref B :: As) (zxS B, σ, τ) Q')
    (kk : ∀ r w', Q' r w' → ∃ σ' τ' : zSt, w' = (zxS B, σ', τ') ∧ gV (lX G B b L xs) (lH G B σ' τ' σ2 τ2 u cb sb) (pc + 3) lv (r.toList ++ rest)) : gV (lX G B b L xs) (lH G B σ τ σ2 τ2 u cb sb) pc lv st := by
  intro p l e s m args below meth c H locs ls cells slots hc hl hh
  have hc0 := hc
  obtain ⟨hx, hb, rfl, hAt, hfl, hK, hN, hZ, hAO, hA, hB⟩ := hc
  obtain ⟨hP, hP2, hO, hS, h1, h2, h3, h4⟩ := hh
  obtain ⟨hM, hlk, hR, hn, h12, T, N, hcl⟩ := hk
  obtain ⟨-, -, hr, hml, hown, hts, hX, hbl, hlocks, hgv⟩ := id hAt
  have tb : ∀ w ∈ zt_tbl, w.before #[Value.ref b] s = true := fun w hw => hts w (List.mem_filter.mp hw).1
  obtain ⟨q0, hq0⟩ := z_at (G := G) (σ := σ) (τ := τ) (zx_o0 (B := B))
  rw [z_cell_o zx_o0 (by omega)] at hq0
  have hrecv := va_recv hK hP (ci := 10) (q0 := q0) hcl hq0
  have hfix : CallFix p m c code 7 s #[Value.ref b] lw_tbl RL := ⟨hx, hb, hml, hown, hts⟩
  have hD : va_D (zgA (lGx G B)) (z_ws (lGx G B) (zxS B, σ, τ)) := zD_rng (fun q h1 h2 => ⟨h1, h2⟩)
  have hpre : PreV s H (zm_y M').cls B (va_Pc (.ref B :: As) (zAt (lGx G B) (zxS B, σ, τ))) As := ⟨zblind, hrecv, fun U hU hW => ⟨rfl, by rw [hU]; exact hP, hK.moved hW.alike, hD, fun n hn => zn_warm hn hW (hN n hn), by
    rw [hU]
    have h9 : zSta G s H := hZ.kept (fun a h1 h2 => hS.2.1 a h1 (by rw [hA] at h2; exact h2))
    exact (h9.moved hW.alike).narrow (fun q hq => by rw [hA]; exact hq.1)⟩⟩
  have cw : CallW room_1 s #[Value.ref b] RL (zm_y M').cls idx (zm_y M') (zm_cc M') (zm_nL M') (zm_ret M') (zm_ws M') (zm_rm M') 0 0 (zm_n M') :=
    ⟨callB_of (zm_n M') hts (zg_law hM.1) rfl rfl rfl (tb _ hM.1.2.1) (tb _ hlk) hM.1.2.2 hR, tb _ hM.2.1, tb _ hM.2.2⟩
  have hm1 : cells + 0 ≤ room_1.cells := Nat.le_trans h1 h3
  have hm2 : slots + 0 ≤ room_1.slots := Nat.le_trans h2 h4
  intro T0 hT X0
  obtain ⟨v, st₀, t, T', L0, h0, X', hL, e1, e2, ⟨⟨r, w', hv, hq, hP', hK', hD', hN', hZ'⟩, hz, hk⟩, stp⟩ := va_runV (As := As) (rest := rest) hfix (hC l) cw hpre rfl hn hl.size hst (lv_room hw) hd ⟨hm1, hm2⟩ T0 hT X0
  cases hv
  rw [h0] at hz hk
  obtain ⟨σ', τ', rfl, kk⟩ := kk v w' hq
  have hS' : va_S (fun q => B ≤ q) s.heap T'.heap (locs ++ L0) := ⟨Nat.le_trans hS.1 (by rw [e1]; exact hz), fun q h1 h2 => by rw [e1, hk q (Nat.lt_of_lt_of_le h1 hS.1) (fun h => h2 h.1)]; exact hS.2.1 q h1 h2, fun q hq => by
    rcases List.mem_append.mp hq with h | h
    · exact hS.2.2 q h
    · exact (hL q h).1⟩
  have hk' : ∀ q : Nat, q < H.size → ¬ zgA (lGx G B) q → T'.heap[q]? = H[q]? := fun q h1 h2 => by rw [e1]; exact hk q h1 h2
  obtain ⟨t2, a1, b1⟩ := kk p l e s m #[Value.ref b] below meth c T'.heap (locs ++ L0) ls cells slots hc0 hl ⟨by rw [e1]; exact hP', l_frame rfl hP2 (fun q h1 h2 h3 => by have := h3.2; omega) hk', by rw [hk' _ (Array.getElem?_eq_some_iff.mp hO).1 (fun h => by have := h.2; omega)]; exact hO, hS', h1, h2, h3, h4⟩ T' rfl X'
  exact ⟨t2, stp t2 a1, b1⟩
theorem l_callm {M' : zMt} {Q' : Option Value → zWd → Prop} {rest : List Value} {idx : Nat} (As : List Value) (hd : decode code pc = .ok (.invokevirtual idx, 3)) (hk : zkL idx M' As.length 11) (hst : st = As.reverse ++ .ref (B + 86) :: rest) (hw : (rest.map fun v => v.category).sum ≤ 8) (hC : zC (lGm G B) M' (.ref (B + 86) :: As) (zmS (B + 86), σ2, τ2) Q')
    (kk : ∀ r w', Q' r w' → ∃ σ' τ' : zSt, w' = (zmS (B + 86), σ', τ') ∧ gV (lX G B b L xs) (lH G B σ τ σ' τ' u cb sb) (pc + 3) lv (r.toList ++ rest)) : gV (lX G B b L xs) (lH G B σ τ σ2 τ2 u cb sb) pc lv st := by
  intro p l e s m args below meth c H locs ls cells slots hc hl hh
  have hc0 := hc
  obtain ⟨hx, hb, rfl, hAt, hfl, hK, hN, hZ, hAO, hA, hB⟩ := hc
  obtain ⟨hP, hP2, hO, hS, h1, h2, h3, h4⟩ := hh
  obtain ⟨hM, hlk, hR, hn, h12, T, N, hcl⟩ := hk
  obtain ⟨-, -, hr, hml, hown, hts, hX, hbl, hlocks, hgv⟩ := id hAt
  have tb : ∀ w ∈ zt_tbl, w.before #[Value.ref b] s = true := fun w hw => hts w (List.mem_filter.mp hw).1
  obtain ⟨q0, hq0⟩ := z_at (G := G) (σ := σ2) (τ := τ2) (zm_o0 (C := B + 86))
  rw [z_cell_o zm_o0 (by omega)] at hq0
  have hrecv := va_recv hK hP2 (ci := 11) (q0 := q0) hcl hq0
  have hfix : CallFix p m c code 7 s #[Value.ref b] lw_tbl RL := ⟨hx, hb, hml, hown, hts⟩
  have hD : va_D (zgA (lGm G B)) (z_ws (lGm G B) (zmS (B + 86), σ2, τ2)) := zD_rng (fun q h1 h2 => ⟨h1, by omega⟩)
  have hpre : PreV s H (zm_y M').cls (B + 86) (va_Pc (.ref (B + 86) :: As) (zAt (lGm G B) (zmS (B + 86), σ2, τ2))) As := ⟨zblind, hrecv, fun U hU hW => ⟨rfl, by rw [hU]; exact hP2, hK.moved hW.alike, hD, fun n hn => zn_warm hn hW (hN n hn), by
    rw [hU]
    have h9 : zSta G s H := hZ.kept (fun a h1 h2 => hS.2.1 a h1 (by rw [hA] at h2; exact h2))
    exact (h9.moved hW.alike).narrow (fun q hq => by rw [hA]; have := hq.1; show B ≤ q; omega)⟩⟩
  have cw : CallW room_1 s #[Value.ref b] RL (zm_y M').cls idx (zm_y M') (zm_cc M') (zm_nL M') (zm_ret M') (zm_ws M') (zm_rm M') 0 0 (zm_n M') :=
    ⟨callB_of (zm_n M') hts (zg_law hM.1) rfl rfl rfl (tb _ hM.1.2.1) (tb _ hlk) hM.1.2.2 hR, tb _ hM.2.1, tb _ hM.2.2⟩
  have hm1 : cells + 0 ≤ room_1.cells := Nat.le_trans h1 h3
  have hm2 : slots + 0 ≤ room_1.slots := Nat.le_trans h2 h4
  intro T0 hT X0
  obtain ⟨v, st₀, t, T', L0, h0, X', hL, e1, e2, ⟨⟨r, w', hv, hq, hP', hK', hD', hN', hZ'⟩, hz, hk⟩, stp⟩ := va_runV (As := As) (rest := rest) hfix (hC l) cw hpre rfl hn hl.size hst (lv_room hw) hd ⟨hm1, hm2⟩ T0 hT X0
  cases hv
  rw [h0] at hz hk
  obtain ⟨σ', τ', rfl, kk⟩ := kk v w' hq
  have hS' : va_S (fun q => B ≤ q) s.heap T'.heap (locs ++ L0) := ⟨Nat.le_trans hS.1 (by rw [e1]; exact hz), fun q h1 h2 => by rw [e1, hk q (Nat.lt_of_lt_of_le h1 hS.1) (fun h => h2 (by have := h.1; show B ≤ q; omega))]; exact hS.2.1 q h1 h2, fun q hq => by
    rcases List.mem_append.mp hq with h | h
    · exact hS.2.2 q h
    · have := (hL q h).1; show B ≤ q.base; omega⟩
  have hk' : ∀ q : Nat, q < H.size → ¬ zgA (lGm G B) q → T'.heap[q]? = H[q]? := fun q h1 h2 => by rw [e1]; exact hk q h1 h2
  obtain ⟨t2, a1, b1⟩ := kk p l e s m #[Value.ref b] below meth c T'.heap (locs ++ L0) ls cells slots hc0 hl ⟨l_frame rfl hP (fun q h1 h2 h3 => by have := h3.1; omega) hk', by rw [e1]; exact hP', by rw [hk' _ (Array.getElem?_eq_some_iff.mp hO).1 (fun h => by have := h.2; omega)]; exact hO, hS', h1, h2, h3, h4⟩ T' rfl X'
  exact ⟨t2, stp t2 a1, b1⟩
/-- a number of the script -/
theorem l_sld {k : Int} (q : Nat) (hq : pc + 1 = q) (hd : decode code pc = .ok (.iaload, 1)) (hk : 0 ≤ k ∧ k < L) (hL : L ≤ 3584) (kk : gV (lX G B b L xs) (lH G B σ τ σ2 τ2 u cb sb) q lv (vi (xs k.toNat).toInt :: st)) : gV (lX G B b L xs) (lH G B σ τ σ2 τ2 u cb sb) pc lv (vi k :: .ref b :: st) := by
  subst hq
  intro p l e s m args below meth c H locs ls cells slots hc hl hh
  have kk := kk p l e s m args below meth c H locs ls cells slots hc hl hh
  obtain ⟨hx, hb, rfl, hAt, hfl, hK, hN, hZ, hAO, hA, hB⟩ := hc
  obtain ⟨-, -, hr, hml, hown, hts, hX, hbl, hlocks, hgv⟩ := id hAt
  refine va_sld (A := fun q => B ≤ q) hx hb hX hbl (by show ¬ B ≤ b; omega) hh.2.2.2.1 (zI_in (n := L) (by omega) (by omega)) hd ?_
  rw [zI_cl (by omega)]
  have e1 : vi (xs k.toNat).toInt = Value.int (xs k.toNat) := by rw [vi, zI_self]
  rw [e1] at kk
  exact kk
theorem l_slen (q : Nat) (hq : pc + 1 = q) (hd : decode code pc = .ok (.arraylength, 1)) (kk : gV (lX G B b L xs) (lH G B σ τ σ2 τ2 u cb sb) q lv (vi (L : Int) :: st)) : gV (lX G B b L xs) (lH G B σ τ σ2 τ2 u cb sb) pc lv (.ref b :: st) := by
  subst hq
  intro p l e s m args below meth c H locs ls cells slots hc hl hh
  have kk := kk p l e s m args below meth c H locs ls cells slots hc hl hh
  obtain ⟨hx, hb, rfl, hAt, hfl, hK, hN, hZ, hAO, hA, hB⟩ := hc
  obtain ⟨-, -, hr, hml, hown, hts, hX, hbl, hlocks, hgv⟩ := id hAt
  refine va_slen (A := fun q => B ≤ q) hx hb hX hbl (by show ¬ B ≤ b; omega) hh.2.2.2.1 hd ?_
  have e : Int32.ofNat L = zI (L : Int) := (Int32.ofInt_eq_ofNat).symm
  rw [e]
  exact kk
/-- argument k of seven -/
theorem l_arg {i k : Int} {lv : List (Option Value)} (q : Nat) (hq : pc + 6 = q) (d0 : decode code pc = .ok (.aload_n 0, 1)) (d1 : decode code (pc + 1) = .ok (.iload 4, 2)) (d2 : decode code (pc + 3) = .ok (.iconst k, 1)) (d3 : decode code (pc + 4) = .ok (.iadd, 1)) (d4 : decode code (pc + 5) = .ok (.iaload, 1)) (h0 : lv[0]? = some (some (.ref b))) (h4 : lv[4]? = some (some (vi i))) (hk : 0 ≤ i + k ∧ i + k < L) (hL : L ≤ 3584) (kk : gV (lX G B b L xs) (lH G B σ τ σ2 τ2 u cb sb) q lv (vi (xs (i + k).toNat).toInt :: st)) : gV (lX G B b L xs) (lH G B σ τ σ2 τ2 u cb sb) pc lv st := by
  subst hq
  exact gv_aload_n (pc + 1) rfl d0 h0 (gv_iload (pc + 3) rfl d1 h4 (gv_iconst (pc + 4) rfl d2 (gv_iadd (pc + 5) rfl d3 (l_sld (pc + 6) rfl d4 hk hL kk))))
theorem l_arg6 {i k : Int} {lv : List (Option Value)} (q : Nat) (hq : pc + 7 = q) (d0 : decode code pc = .ok (.aload_n 0, 1)) (d1 : decode code (pc + 1) = .ok (.iload 4, 2)) (d2 : decode code (pc + 3) = .ok (.bipush k, 2)) (hk2 : (Int8.ofInt k).toInt32 = zI k) (d3 : decode code (pc + 5) = .ok (.iadd, 1)) (d4 : decode code (pc + 6) = .ok (.iaload, 1)) (h0 : lv[0]? = some (some (.ref b))) (h4 : lv[4]? = some (some (vi i))) (hk : 0 ≤ i + k ∧ i + k < L) (hL : L ≤ 3584) (kk : gV (lX G B b L xs) (lH G B σ τ σ2 τ2 u cb sb) q lv (vi (xs (i + k).toNat).toInt :: st)) : gV (lX G B b L xs) (lH G B σ τ σ2 τ2 u cb sb) pc lv st := by
  subst hq
  exact gv_aload_n (pc + 1) rfl d0 h0 (gv_iload (pc + 3) rfl d1 h4 (gv_bipush (pc + 5) rfl d2 hk2 (gv_iadd (pc + 6) rfl d3 (l_sld (pc + 7) rfl d4 hk hL kk))))
end LC
/-- two answers that are the same -/
theorem gv_same {X : gX} {Hh : gH} {pc : Nat} {lv : List (Option Value)} {st : List Value} {a : Int} {off : Int} (tgt : Nat) (hd : decode (gxc X) pc = .ok (.if_icmp .eq off, 3)) (ht : (pc : Int) + off = (tgt : Int)) (kt : gV X Hh tgt lv st) : gV X Hh pc lv (vi a :: vi a :: st) := by
  intro p l e' s m args below meth c H locs ls cells slots hc hl hh
  exact lv_icmp_eq hc.1 hc.2.1 hd ht (fun h => kt p l e' s m args below meth c H locs ls cells slots hc hl hh) (fun h => absurd rfl h)
theorem gv_samel {X : gX} {Hh : gH} {pc : Nat} {lv : List (Option Value)} {st : List Value} {a : Int} (q : Nat) (hq : pc + 1 = q) (hd : decode (gxc X) pc = .ok (.lcmp, 1)) (k : gV X Hh q lv (vi 0 :: st)) : gV X Hh pc lv (vl a :: vl a :: st) := by
  subst hq
  intro p l e s m args below meth c H locs ls cells slots hc hl hh
  have k := k p l e s m args below meth c H locs ls cells slots hc hl hh
  have e1 : lg_cmp (zL a) (zL a) = zI 0 := by
    unfold lg_cmp
    rw [if_neg (by intro h; have h := Int64.lt_iff_toInt_lt.mp h; omega), if_pos rfl]; rfl
  exact W.lcmp hc.1 hc.2.1 hd (by rw [e1]; exact k)
theorem i32_r (x : Int32) : -2147483648 ≤ x.toInt ∧ x.toInt ≤ 2147483647 := by
  have h1 := Int32.le_toInt x
  have h2 := Int32.toInt_lt x
  omega
