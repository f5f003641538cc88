/-! ===== what is carried for a throw ===== -/
def xS (A : Nat → Prop) (sa : Nat) (U : State) (H : Heap) : Prop := vx_Zq Bundle.tN "UNASSIGNED_STACK" Bundle.steD A U H ∧ vx_Zq Bundle.tN "SUPPRESSED_SENTINEL" Bundle.listD A U H ∧ vk_R RX10 396 "no such letter" sa U ∧ ∀ w ∈ xnb, va_Nw w U
theorem xnb_warm {w : Cond} (hw : w ∈ xnb) {s U : State} (hW : s.WarmedH U.vm) (h : va_Nw w s) : va_Nw w U := by
  simp only [xnb, List.mem_cons, List.not_mem_nil, or_false] at hw
  rcases hw with rfl | rfl | rfl | rfl
  · exact va_Nw.warmD hW h
  · exact va_Nw.warmD hW h
  · exact va_Nw.warmD hW h
  · exact va_Nw.warmC hW h
theorem xnb_on {w : Cond} (hw : w ∈ xnb) : w.onTables = true := by
  simp only [xnb, List.mem_cons, List.not_mem_nil, or_false] at hw
  rcases hw with rfl | rfl | rfl | rfl <;> rfl
theorem xS.warm {A : Nat → Prop} {sa : Nat} {s U : State} {H : Heap} (hW : s.WarmedH U.vm) (h : xS A sa s H) : xS A sa U H := ⟨h.1.moved hW.alike, h.2.1.moved hW.alike, h.2.2.1.warm hW, fun w hw => xnb_warm hw hW (h.2.2.2 w hw)⟩
theorem xS.same {A : Nat → Prop} {sa : Nat} {s U : State} {H : Heap} (hv : U.vm = s.vm) (h : xS A sa s H) : xS A sa U H := ⟨h.1.moved (by rw [hv]; exact Vm.Alike.refl _), h.2.1.moved (by rw [hv]; exact Vm.Alike.refl _), vk_R.same hv h.2.2.1, fun w hw => va_Nw.same (xnb_on hw) hv.symm (h.2.2.2 w hw)⟩
theorem xS.kept {A : Nat → Prop} {sa : Nat} {U : State} {H H1 : Heap} (h : xS A sa U H) (hq : ∀ a : Nat, a < H.size → ¬ A a → H1[a]? = H[a]?) : xS A sa U H1 := ⟨h.1.kept hq, h.2.1.kept hq, h.2.2⟩
theorem xS.narrow {A B : Nat → Prop} {sa : Nat} {U : State} {H : Heap} (h : xS A sa U H) (hAB : ∀ q, B q → A q) : xS B sa U H := ⟨h.1.narrow hAB, h.2.1.narrow hAB, h.2.2⟩
/-! ===== fields and calls out of any body ===== -/
def gzC (G : zG) (cc : ByteArray) (nL : Nat) (own : String) (p : Program) (s : State) (m : MethodId) (args : Array Value) (c : Code) : Prop := p.tables.exec = Jvm.exec ∧ c.code = cc ∧ c.maxLocals = nL ∧ s.vm.findClass own = some m.cls ∧ (∀ w ∈ zt_tbl, w.before args s = true) ∧ va_K (zgD G) vwCl (zg_tys G) s ∧ (∀ n ∈ zn_tbl, va_Nw n s) ∧ zSta G s s.heap
section GZ
variable {G : zG} {cc : ByteArray} {nL : Nat} {own : String} {p : Program} {l : Launch} {e : Env} {R : Room} {s : State} {m : MethodId} {args : Array Value} {below : List Frame} {meth : Method} {c : Code} {H : Heap} {locs : List Loc} {cells slots : Nat} {Q : State → Prop} {pc : Nat} {ls : Array Slot} {st rest : List Value} {S : zSh} {σ τ : zSt}
theorem gz_at {U : State} {w : zWd} (hc : gzC G cc nL own p s m args c) (hh : zH G w s H locs) (hU : U.heap = H) (hW : s.WarmedH U.vm) : zAt G w U := by
  obtain ⟨hP, hD, hS⟩ := hh
  obtain ⟨-, -, -, -, -, hK, hN, hZ⟩ := hc
  exact ⟨by rw [hU]; exact hP, hK.moved hW.alike, hD, fun n hn => zn_warm hn hW (hN n hn), by rw [hU]; exact (hZ.kept hS.2.1).moved hW.alike⟩
theorem gz_getr {idx ci j a n0 b : Nat} (hc : gzC G cc nL own p s m args c) (hz : zH G (S, σ, τ) s H locs) (hd : decode cc pc = .ok (.getfield idx, 3)) (hf : zfl own idx ci j 2) (ho : zo S a ci n0) (hr : S.2.2 a j = some b) (kk : W p l e R s m args below meth c H locs cells slots Q (F0 m (pc + 3) ls (.ref b :: st))) : W p l e R s m args below meth c H locs cells slots Q (F0 m pc ls (.ref a :: st)) := by
  obtain ⟨h12, hkt, C, T, N, ⟨hcl, hin, -, -⟩, hk, hlink⟩ := hf
  obtain ⟨q0, hq0⟩ := z_at (G := G) (σ := σ) (τ := τ) ho
  rw [z_cell_o ho h12] at hq0
  have hv := z_fs_get (σ a) (τ a) (S.2.2 a) (zk_f ci) 0 j 2 hkt
  have ev : z_v (σ a) (τ a) (S.2.2 a) (0 + j) 2 = .ref b := by simp [z_v, hr, va_rf]
  rw [ev] at hv
  obtain ⟨hx, hb, hml, hown, tb, hK, hN, hZ⟩ := hc
  rcases hlink with h | ⟨host, h⟩
  · exact va_get hx hb tb hin hown hK hz.1 q0 hq0 hcl j hk (tb _ h) (fun _ h9 => h9) hv hd kk
  · exact va_getN hx hb tb hin hown hK hz.1 q0 hq0 hcl j hk (va_Nw.use rfl (hN _ h)) (fun _ h9 => h9) hv hd kk
theorem gz_good {M' : zMt} (h : zm_B M') : GoodIn zt_tbl (zm_ws M') := by
  intro w hw
  have hg : w ∈ zt_tbl := by
    rcases List.mem_cons.mp hw with rfl | hw
    · exact h.1
    · exact hw
  exact ⟨hg, good_of_word (List.mem_filter.mp hg).2⟩
theorem gz_callV {M' : zMt} {Q' : Option Value → zWd → Prop} {idx b ci n : Nat} {T : u_T} {N : Nat} (hc : gzC G cc nL own p s m args c) (hls : ls.size = nL) (hh : zH G (S, σ, τ) s H locs) (As : List Value) (hd : decode cc pc = .ok (.invokevirtual idx, 3)) (hM : zm_V M') (hlk : zml own idx M') (hR : zm_fr M' + 1 ≤ R.frames ∧ 8 + (zm_nL M' + 11) + zm_lw M' ≤ R.locals) (hcs : cells ≤ R.cells ∧ slots ≤ R.slots) (hn : As.length = zm_n M') (hst : st = As.reverse ++ .ref b :: rest) (hw : (rest.map fun v => v.category).sum ≤ 8) (h12 : ci < 12) (hcl : vwCl[ci]? = some ((zm_y M').cls, T, N)) (ho : zo S b ci n) (hC : zC G M' (.ref b :: As) (S, σ, τ) Q')
    (kk : ∀ r w' H1 locs1, Q' r w' → zH G w' s H1 locs1 → W p l e R s m args below meth c H1 locs1 cells slots Q (F0 m (pc + 3) ls (r.toList ++ rest))) : W p l e R s m args below meth c H locs cells slots Q (F0 m pc ls st) := by
  have hc0 := hc
  obtain ⟨hx, hb, hml, hown, tb, hK, hN, hZ⟩ := hc
  obtain ⟨q0, hq0⟩ := z_at (G := G) (σ := σ) (τ := τ) ho
  rw [z_cell_o ho h12] at hq0
  have hrecv := va_recv hK hh.1 (ci := ci) (q0 := q0) hcl hq0
  have hfix : CallFix p m c cc nL s args zt_tbl own := ⟨hx, hb, hml, hown, tb⟩
  have hpre : PreV s H (zm_y M').cls b (va_Pc (.ref b :: As) (zAt G (S, σ, τ))) As := ⟨zblind, hrecv, fun U hU hW => ⟨rfl, gz_at hc0 hh hU hW⟩⟩
  have hrun : va_Run p l e R s m args below meth c H locs cells slots 0 0 (F0 m pc ls st) rest (zQ G Q' (Value.ref b :: As).toArray) (zgA G) := by
    rcases hlk with h | ⟨host, h⟩
    · have cw : CallW R s args own (zm_y M').cls idx (zm_y M') (zm_cc M') (zm_nL M') (zm_ret M') (zm_ws M') (zm_rm M') 0 0 (zm_n M') :=
        ⟨callB_of (zm_n M') tb (gz_good hM.1) rfl rfl rfl (tb _ hM.1.2.1) (tb _ h) hM.1.2.2 hR, tb _ hM.2.1, tb _ hM.2.2⟩
      exact va_runV (As := As) hfix (hC l) cw hpre rfl hn hls hst (lv_room hw) hd hcs
    · have cw := va_cnB (R := R) (own := own) (index := idx) (zm_n M') tb (gz_good hM.1) rfl (rm := zm_rm M') (mc := 0) (ms := 0) rfl rfl (hN _ h) (tb _ hM.1.2.1) hM.1.2.2 hR
      exact va_runVN (As := As) hfix (hC l) ⟨cw, tb _ hM.2.1, tb _ hM.2.2⟩ hpre rfl hn hls hst (lv_room hw) hd hcs
  intro T0 hT X0
  obtain ⟨v, st₀, t, T', L, h0, X', hL, e1, e2, ⟨⟨r, w', hv, hq, hP, hK', hD, hN', hZ'⟩, hz, hk⟩, stp⟩ := hrun T0 hT X0
  cases hv
  rw [h0] at hz hk
  have hS : va_S (zgA G) s.heap T'.heap (locs ++ L) := ⟨Nat.le_trans hh.2.2.1 (by rw [e1]; exact hz), fun q h1 h2 => by rw [e1, hk q (Nat.lt_of_lt_of_le h1 hh.2.2.1) h2]; exact hh.2.2.2.1 q h1 h2, fun q hq => by
      rcases List.mem_append.mp hq with h | h
      · exact hh.2.2.2.2 q h
      · exact hL q h⟩
  obtain ⟨t2, a1, b1⟩ := kk v w' T'.heap (locs ++ L) hq ⟨by rw [e1]; exact hP, hD, hS⟩ T' rfl X'
  exact ⟨t2, stp t2 a1, b1⟩
end GZ
/-! ===== letter, where there is none: it throws ===== -/
def xrm : Room := { frames := 6, cells := 1, slots := 6, locals := 120 }
theorem X_letterX {G : zG} {B sa : Nat} {σ τ : zSt} {A : zA} {p k : Int} (l : Launch) (hl9 : l.stackTraces = false) (h : zxR B σ τ A) (hp : -2147483648 ≤ p ∧ p ≤ 2147483647) (hk : -2147483648 ≤ k ∧ k ≤ 2147483647) (hn : ¬ aHasL A p k) : vx_Met l yX10_letter (zm_ws M_X10_letter) xrm (va_Pc [.ref B, vi p, vi k] (fun U => zAt G (zxS B, σ, τ) U ∧ xS (zgA G) sa U U.heap)) (fun _ _ _ _ => False) (fun E st t => E = xNS ∧ va_P (zgD G) vwCl (z_ws G (zxS B, σ, τ)) t.heap ∧ va_F (zgA G) st t) 1 6 (zgA G) := by
  have hnm : xNm σ (B + 44) (aN A) := h.2.2.2.2.1
  refine vx_ofW (cc := cX10_letter) (maxL := 3) (ret := some .int) (ws' := zt_tbl) (by decide) rfl ?_
  intro p' e s m args below meth c s₁ Bd hml ht hv
  obtain ⟨rfl, ⟨hP, hK, hD, hN, hZ⟩, hX⟩ := hv
  have hts := atoms_spec (ws := zm_ws M_X10_letter) Bd.pre
  have tb : ∀ w ∈ zt_tbl, w.before ([Value.ref B, vi p, vi k] : List Value).toArray s = true := fun w hw => hts w (List.mem_cons_of_mem _ hw)
  have hown : s.vm.findClass RX10 = some m.cls := findClass_of_methodNamed Bd.named
  have hx := Bd.exec
  have hb := Bd.bytes
  have hgz : gzC G cX10_letter 3 RX10 p' s m ([Value.ref B, vi p, vi k] : List Value).toArray c := ⟨hx, hb, hml, hown, tb, hK, hN, hZ⟩
  have hl := lv_entry ([.ref B, vi p, vi k]) (n := 3) (Nat.le_of_ble_eq_true rfl)
  rw [lg_entry_eq]
  generalize (lg_sl ([.ref B, vi p, vi k]) ++ List.replicate (3 - (lg_sl ([.ref B, vi p, vi k])).length) Slot.unset).toArray = ls at hl ⊢
  have hl : lv_has ls 3 [(0, .ref B), (1, vi p), (2, vi k)] := hl
  have hz0 : zH G (zxS B, σ, τ) s s.heap [] := ⟨hP, hD, va_S.rf⟩
  refine lv_aload_n hx hb dX10_letter_0 rfl (lv_at hl 0 rfl) ?_
  refine gz_getr hgz hz0 dX10_letter_1 fl_X10_47 zx_o0 (zx_f0 6 44 rfl) ?_
  refine lv_iload_n hx hb dX10_letter_4 rfl (lv_at hl 1 rfl) ?_
  refine lv_iload_n hx hb dX10_letter_5 rfl (lv_at hl 2 rfl) ?_
  refine gz_callV hgz hl.1 hz0 [vi p, vi k] dX10_letter_6 mV_X2_hasLetter ml_X10_391 ⟨Nat.le_of_ble_eq_true rfl, Nat.le_of_ble_eq_true rfl⟩ ⟨Nat.le_of_ble_eq_true rfl, Nat.le_of_ble_eq_true rfl⟩ rfl rfl (Nat.le_of_ble_eq_true rfl) (ci := 2) (by omega) rfl (zx_o 44 2 0 rfl) (c_hasLetter zx_nm hnm hp hk) (fun r w' H1 locs1 hq hz => ?_)
  obtain ⟨rfl, rfl⟩ := hq
  rw [← zb_f hn]
  refine lv_if_ne (x := zI 0) (tgt := 23) hx hb dX10_letter_9 rfl (fun h => absurd rfl h) (fun _ => ?_)
  refine xs_throwSW (cls := xNS) (names := ["java/lang/RuntimeException", "java/lang/Exception"]) (A := zgA G) hx hb hl9 xb_0 xb_1 xb_2 xb_5 hown (by decide +kernel) (by decide +kernel) (tb _ xk_390) (tb _ xk_i) hX.2.2.1 (vx_hat (fun w hw => tb w (xw_g w hw)) xw_b (fun w hw => va_Nw.use (xnb_on hw) (hX.2.2.2 w hw))) xw_ot hX.1 hX.2.1 hz.2.2 (by rw [hml]; exact hl.1) dX10_letter_12 dX10_letter_15 dX10_letter_16 dX10_letter_19 dX10_letter_22 (fun x hx9 => (ht x hx9).elim) (by decide) (by decide) (by decide) (by decide) Bd.notSynchronized (fun t hal hsz hkp => ⟨rfl, fun k q hq => (hz.1 k q hq).kept (hkp q.1 (hz.1 k q hq).lt), ⟨Nat.le_trans hz.2.2.1 hsz, fun q h1 h2 => (hkp q (Nat.lt_of_lt_of_le h1 hz.2.2.1)).trans (hz.2.2.2.1 q h1 h2)⟩⟩) hz.2.2.2.2 (by omega) (by omega)
