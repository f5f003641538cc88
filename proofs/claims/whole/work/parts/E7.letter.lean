theorem dL_letter_0 : decode cL_letter 0 = .ok (.aload_n 3, 1) := by decide +kernel
theorem dL_letter_1 : decode cL_letter 1 = .ok (.iconst 0, 1) := by decide +kernel
theorem dL_letter_2 : decode cL_letter 2 = .ok (.aload_n 0, 1) := by decide +kernel
theorem dL_letter_3 : decode cL_letter 3 = .ok (.iload_n 1, 1) := by decide +kernel
theorem dL_letter_4 : decode cL_letter 4 = .ok (.iload_n 2, 1) := by decide +kernel
theorem dL_letter_5 : decode cL_letter 5 = .ok (.invokevirtual 7, 3) := by decide +kernel
theorem dL_letter_8 : decode cL_letter 8 = .ok (.i2l, 1) := by decide +kernel
theorem dL_letter_9 : decode cL_letter 9 = .ok (.lastore, 1) := by decide +kernel
theorem dL_letter_10 : decode cL_letter 10 = .ok (.goto 7, 3) := by decide +kernel
theorem dL_letter_13 : decode cL_letter 13 = .ok (.astore 4, 2) := by decide +kernel
theorem dL_letter_15 : decode cL_letter 15 = .ok (.iconst 1, 1) := by decide +kernel
theorem dL_letter_16 : decode cL_letter 16 = .ok (.ireturn, 1) := by decide +kernel
theorem dL_letter_17 : decode cL_letter 17 = .ok (.iconst 0, 1) := by decide +kernel
theorem dL_letter_18 : decode cL_letter 18 = .ok (.ireturn, 1) := by decide +kernel
/-! ===== the law's letter ===== -/
theorem ml_L_7 : zml RL 7 M_X10_letter := Or.inl (zt_t 983 (by decide +kernel) rfl)
theorem hw_c : Cond.codeWith yL_letter cL_letter 5 (some .int) [(0, 10, 13, 13)] ∈ zt_tbl := zt_t 981 (by decide +kernel) rfl
def hws : List Cond := .codeWith yL_letter cL_letter 5 (some .int) [(0, 10, 13, 13)] :: zt_tbl
def hrm : Room := { frames := 7, cells := 1, slots := 6, locals := 150 }
def hA (B : Nat) : Nat → Prop := fun q => (B ≤ q ∧ q < B + 86) ∨ B + 110 ≤ q
abbrev hO (G : zG) (u : Int) : Cell := vp_cell G.2.1.2.1 (1, .inr (.inl (fun _ => zL u)))
def hP (G : zG) (B sa : Nat) (σ τ : zSt) (u : Int) (U : State) : Prop := zAt (lGx G B) (zxS B, σ, τ) U ∧ xS (hA B) sa U U.heap ∧ U.heap[B + 110]? = some (hO G u)
def hQ (G : zG) (B : Nat) (σ τ : zSt) (A : zA) (p k u : Int) : Array Value → State → Outcome → State → Prop := fun _ st o t => ∃ r u' : Int, o = .returned (some (vi r)) ∧ ((aHasL A p k ∧ r = 0 ∧ u' = aLet A p k) ∨ (¬ aHasL A p k ∧ r = 1 ∧ u' = u)) ∧ va_P (zgD G) vwCl (z_ws G (zxS B, σ, τ)) t.heap ∧ t.heap[B + 110]? = some (hO G u') ∧ va_F (hA B) st t
theorem hO_set (cA : ClassId) (u x : Int) : (vp_cell cA (1, .inr (.inl (fun _ => zL u)))).setSlot 0 (.long (zL x)) = vp_cell cA (1, .inr (.inl (fun _ => zL x))) := by
  rw [vp_cell_l, vp_cell_l]
  simp only [arrV, Cell.setSlot]
  congr 1
theorem hblind {G : zG} {B sa : Nat} {σ τ : zSt} {u : Int} {av : List Value} : FrameBlind (va_Pc av (hP G B sa σ τ u)) := by
  intro a U g mk q
  obtain ⟨h1, h2, h3, h4⟩ := q
  exact ⟨h1, (zblind (av := av) a U g mk ⟨h1, h2⟩).2, xS.same (s := U) (U := U.calling g mk a) rfl h3, h4⟩
theorem xblind {G : zG} {B sa : Nat} {σ τ : zSt} {av : List Value} : FrameBlind (va_Pc av (fun U => zAt G (zxS B, σ, τ) U ∧ xS (zgA G) sa U U.heap)) := by
  intro a U g mk q
  obtain ⟨h1, h2, h3⟩ := q
  exact ⟨h1, (zblind (av := av) a U g mk ⟨h1, h2⟩).2, xS.same (s := U) (U := U.calling g mk a) rfl h3⟩
theorem aLet_r {B : Nat} {σ τ : zSt} {A : zA} {p k : Int} (h : zxR B σ τ A) (hn : aHasL A p k) : 0 ≤ aLet A p k ∧ aLet A p k ≤ 25 := by
  have hN := h.2.2.2.2.1
  obtain ⟨-, -, h3⟩ := hN
  obtain ⟨⟨a1, a2⟩, a3, a4⟩ := hn
  have h5 := (h3 p.toNat (by omega)).2.2 k.toNat (by omega)
  exact h5.2
theorem H_letter {G : zG} {B sa : Nat} {σ τ : zSt} {A : zA} {p k u : Int} (l : Launch) (hl9 : l.stackTraces = false) (h : zxR B σ τ A) (hp : -2147483648 ≤ p ∧ p ≤ 2147483647) (hk : -2147483648 ≤ k ∧ k ≤ 2147483647) : Met l yL_letter hws hrm (va_Pc [.ref B, vi p, vi k, .ref (B + 110)] (hP G B sa σ τ u)) (hQ G B σ τ A p k u) 1 6 (hA B) := by
  refine va_MetW (cc := cL_letter) (maxL := 5) (ret := some .int) (hh := [(0, 10, 13, 13)]) (ws' := zt_tbl) (by decide) rfl ?_
  intro p' e s m args below meth c s₁ Bd hml hv
  obtain ⟨rfl, hAt, hX, hOc⟩ := hv
  obtain ⟨hPw, hK, hD, hN, hZ⟩ := id hAt
  have hts := atoms_spec (ws := hws) Bd.pre
  have tb : ∀ w ∈ zt_tbl, w.before ([Value.ref B, vi p, vi k, .ref (B + 110)] : List Value).toArray s = true := fun w hw => hts w (List.mem_cons_of_mem _ hw)
  have htab := vx_table (x := yL_letter) Bd (hts _ List.mem_cons_self)
  have hown : s.vm.findClass RL = some m.cls := findClass_of_methodNamed Bd.named
  have hx := Bd.exec
  have hb := Bd.bytes
  have hr := Bd.returns
  have hlocks := Bd.notSynchronized
  have hgz : gzC (lGx G B) cL_letter 5 RL p' s m ([Value.ref B, vi p, vi k, .ref (B + 110)] : List Value).toArray c := ⟨hx, hb, hml, hown, tb, hK, hN, hZ⟩
  have hl := lv_entry ([.ref B, vi p, vi k, .ref (B + 110)]) (n := 5) (Nat.le_of_ble_eq_true rfl)
  rw [lg_entry_eq]
  generalize (lg_sl ([.ref B, vi p, vi k, .ref (B + 110)]) ++ List.replicate (5 - (lg_sl ([.ref B, vi p, vi k, .ref (B + 110)])).length) Slot.unset).toArray = ls at hl ⊢
  have hl : lv_has ls 5 [(0, .ref B), (1, vi p), (2, vi k), (3, .ref (B + 110))] := hl
  have hz0 : zH (lGx G B) (zxS B, σ, τ) s s.heap [] := ⟨hPw, hD, va_S.rf⟩
  refine lv_aload_n hx hb dL_letter_0 rfl (lv_at hl 3 rfl) ?_
  refine lv_iconst (v := zI 0) hx hb dL_letter_1 rfl ?_
  refine lv_aload_n hx hb dL_letter_2 rfl (lv_at hl 0 rfl) ?_
  refine lv_iload_n hx hb dL_letter_3 rfl (lv_at hl 1 rfl) ?_
  refine lv_iload_n hx hb dL_letter_4 rfl (lv_at hl 2 rfl) ?_
  have hob : B + 110 < s.heap.size := (Array.getElem?_eq_some_iff.mp hOc).1
  by_cases hn : aHasL A p k
  · refine gz_callV (rest := [vi 0, .ref (B + 110)]) hgz hl.1 hz0 [vi p, vi k] dL_letter_5 mV_X10_letter ml_L_7 ⟨Nat.le_of_ble_eq_true rfl, Nat.le_of_ble_eq_true rfl⟩ ⟨Nat.le_of_ble_eq_true rfl, Nat.le_of_ble_eq_true rfl⟩ rfl rfl (Nat.le_of_ble_eq_true rfl) (ci := 10) (by omega) rfl zx_o0 (X_letter h hp hk hn) (fun r w' H1 locs1 hq hz => ?_)
    obtain ⟨rfl, rfl⟩ := hq
    have hO1 : H1[B + 110]? = some (hO G u) := by rw [hz.2.2.2.1 _ hob (fun h9 => by have := h9.2; omega)]; exact hOc
    have hrg := aLet_r h hn
    refine lv_i2l (v := zL (aLet A p k)) hx hb dL_letter_8 (zI_l (by omega)) ?_
    refine W.last (x := zL (aLet A p k)) (j := zI 0) (rest := []) hx hb hO1 ((hK.2 1 _ rfl).1 1 (fun _ => .long (zL u))) (fun q => by cases q) (by show ¬ (zI 0 < 0 ∨ (arrV _ _ _).slots.size ≤ _); rw [arrV_size]; exact (show ¬ (zI 0 < 0 ∨ 1 ≤ (zI 0).toNatClampNeg) by decide)) rfl rfl dL_letter_9 fun H2 e2 z2 o2 => ?_
    refine lv_goto (tgt := 17) hx hb dL_letter_10 rfl ?_
    refine lv_iconst (v := zI 0) hx hb dL_letter_17 rfl ?_
    refine W.widen (k := 1) (n := 6) (by omega) (by omega) ?_
    have hS2 : va_S (hA B) s.heap H2 (locs1 ++ [⟨B + 110, (zI 0).toNatClampNeg⟩]) := ⟨by rw [z2]; exact hz.2.2.1, fun q h1 h2 => by rw [o2 q (fun h9 => h2 (Or.inr (Nat.le_of_eq h9.symm)))]; exact hz.2.2.2.1 q h1 (fun h9 => h2 (Or.inl h9)), fun q hq => by
      rcases List.mem_append.mp hq with h9 | h9
      · exact Or.inl (hz.2.2.2.2 q h9)
      · rw [List.mem_singleton.mp h9]; exact Or.inr (Nat.le_refl _)⟩
    refine W.iret (v := zI 0) hx hb hr (fun t ht hW => ⟨0, aLet A p k, rfl, Or.inl ⟨hn, rfl, rfl⟩, by rw [ht]; exact l_frame (A := fun q => q = B + 110) rfl hz.1 (fun q h1 h2 h3 => by omega) (fun q h1 h2 => o2 q h2), by rw [ht, e2]; exact congrArg some (hO_set _ u _), hS2.F ht⟩) hS2.2.2 dL_letter_18 hlocks
  · have hfix : CallFix p' m c cL_letter 5 s ([Value.ref B, vi p, vi k, .ref (B + 110)] : List Value).toArray zt_tbl RL := ⟨hx, hb, hml, hown, tb⟩
    obtain ⟨q0, hq0⟩ := z_at (G := lGx G B) (σ := σ) (τ := τ) (zx_o0 (B := B))
    rw [z_cell_o zx_o0 (by omega)] at hq0
    have hrecv := va_recv hK hPw (ci := 10) (q0 := q0) (q := (RX10, TX10, 18)) rfl hq0
    have hpre : PreV s s.heap RX10 B (va_Pc [.ref B, vi p, vi k] (fun U => zAt (lGx G B) (zxS B, σ, τ) U ∧ xS (zgA (lGx G B)) sa U U.heap)) [vi p, vi k] := ⟨xblind, hrecv, fun U hU hW => ⟨rfl, gz_at hgz hz0 hU hW, by rw [hU]; exact (hX.warm hW).narrow (fun q hq => Or.inl hq)⟩⟩
    have cw : CallW hrm s ([Value.ref B, vi p, vi k, .ref (B + 110)] : List Value).toArray RL RX10 7 yX10_letter cX10_letter 3 (some .int) (zm_ws M_X10_letter) xrm 1 6 2 :=
      ⟨callB_of 2 tb (gz_good mV_X10_letter.1) rfl rfl rfl (tb _ mV_X10_letter.1.2.1) (tb _ (zt_t 983 (by decide +kernel) rfl)) (by decide +kernel) ⟨Nat.le_of_ble_eq_true rfl, Nat.le_of_ble_eq_true rfl⟩, tb _ mV_X10_letter.2.1, tb _ mV_X10_letter.2.2⟩
    have hrun := vx_runV (e := e) (below := below) (meth := meth) (locs := []) (cells := 0) (slots := 0) (g := F0 m 5 ls [vi k, vi p, .ref B, vi 0, .ref (B + 110)]) (As := [vi p, vi k]) (rest := [vi 0, .ref (B + 110)]) hfix (X_letterX (G := lGx G B) (sa := sa) l hl9 h hp hk hn) cw hpre rfl rfl hl.1 rfl (lv_room (Nat.le_of_ble_eq_true rfl)) dL_letter_5 ⟨Nat.le_of_ble_eq_true rfl, Nat.le_of_ble_eq_true rfl⟩
    intro T0 hT X0
    rcases hrun T0 hT X0 with ⟨v, st₀, t, T', L, h0, X', hL, e1, e2, hF, stp⟩ | ⟨q, st₀, t, T', L, E, ce, h0, X', hL, e1, e2, ⟨hE, hP2, hF⟩, hce, hcv, hcl, stp⟩
    · exact hF.elim
    · subst hE
      rw [va_F, h0] at hF
      have hS2 : va_S (hA B) s.heap T'.heap ([] ++ L) := ⟨by rw [e1]; exact hF.1, fun q h1 h2 => by rw [e1]; exact hF.2 q h1 (fun h9 => h2 (Or.inl h9)), fun q hq => Or.inl (hL q (by simpa using hq))⟩
      have hO2 : T'.heap[B + 110]? = some (hO G u) := by rw [e1, hF.2 _ hob (fun h9 => by have := h9.2; omega)]; exact hOc
      have kk : vx_W p' l e hrm s m ([Value.ref B, vi p, vi k, .ref (B + 110)] : List Value).toArray below meth c T'.heap ([] ++ L) (0 + 1) (0 + 6) (MQ below (hQ G B σ τ A p k u) ([Value.ref B, vi p, vi k, .ref (B + 110)] : List Value).toArray s 1 6 (hA B)) (F0 m 5 ls [vi 0, .ref (B + 110)]) q := by
        refine vx_catch (E := xNS) (name := xNS) hown [] ⟨0, 10, 13, 13⟩ [] htab (fun z hz => by cases hz) (by decide) (by decide) (tb _ xk_13) (va_Nw.use rfl (hX.2.2.2 _ xk_c)) (by rw [e1]; exact hce) hcv hcl ?_
        refine lv_astore (lv' := [(4, .ref q), (0, .ref B), (1, vi p), (2, vi k), (3, .ref (B + 110))]) hx hb dL_letter_13 hl (by decide) rfl (fun ls hl => ?_)
        refine lv_iconst (v := zI 1) hx hb dL_letter_15 rfl ?_
        refine W.iret (v := zI 1) hx hb hr (fun t' ht hW => ⟨1, u, rfl, Or.inr ⟨hn, rfl, rfl⟩, by rw [ht, e1]; exact hP2, by rw [ht]; exact hO2, hS2.F ht⟩) hS2.2.2 dL_letter_16 hlocks
      obtain ⟨t2, a1, b1⟩ := kk T' rfl X'
      exact ⟨t2, stp.trans a1, b1⟩
