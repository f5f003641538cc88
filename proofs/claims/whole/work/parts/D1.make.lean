/-! ===== constructors: they make cells, one behind another ===== -/
def zm_rk (M : zMt) (mc ms : Nat) : Room := { frames := zm_fr M, cells := mc, slots := ms, locals := zm_lw M }
def kAt (G : zG) (w : zWd) (h : Nat) (U : State) : Prop := zAt G w U ∧ U.heap.size = h ∧ va_AO "ShadeGrid$Picture" U
def kQ (G : zG) (w' : zWd) (h' : Nat) : Array Value → State → Outcome → State → Prop := fun _ st o t => (o = .returned none ∧ kAt G w' h' t) ∧ va_F (zgA G) st t
def kC (G : zG) (M : zMt) (av : List Value) (w : zWd) (h : Nat) (w' : zWd) (mc ms : Nat) : Prop := ∀ l : Launch, Met l (zm_y M) (zm_ws M) (zm_rk M mc ms) (va_Pc av (kAt G w h)) (kQ G w' (h + mc)) mc ms (zgA G)
def kX (G : zG) (M : zMt) (w' : zWd) (h mc ms : Nat) : gX := (zm_cc M, zm_nL M, zm_rk M mc ms, fun p _ s m args meth c => zCx G M p s m args meth c ∧ meth.name = "<init>" ∧ va_AO "ShadeGrid$Picture" s ∧ ∀ q, s.heap.size ≤ q → zgA G q, fun below args s => MQ below (kQ G w' (h + mc)) args s mc ms (zgA G))
def kH (G : zG) (w : zWd) (h n k : Nat) : gH := fun s H locs cells slots => zH G w s H locs ∧ H.size = h ∧ cells = n ∧ slots = k ∧ s.heap.size + n = h
/-- how many cells there can be -/
theorem W.sized {p : Program} {l : Launch} {e : Env} {R : Room} {s : State} {m : MethodId} {args : Array Value} {below : List Frame} {meth : Method} {c : Code} {H : Heap} {locs : List Loc} {cells slots : Nat} {Q : State → Prop} {g : JFrame} (kk : H.size ≤ s.heap.size + cells → W p l e R s m args below meth c H locs cells slots Q g) : W p l e R s m args below meth c H locs cells slots Q g := by
  intro T hT X
  refine kk ?_ T hT X
  have h := X.same.2.2.1
  rw [← hT]
  exact h
theorem kC_of {G : zG} {M : zMt} {av : List Value} {w w' : zWd} {h mc ms : Nat} (n : Nat) (hp : plainName (zm_y M).cls = true) (hn : (lg_sl av).length ≤ zm_nL M) (hA : ∀ q, h ≤ q → zgA G q) (hnm : (zm_y M).name = "<init>") (hv : gV (kX G M w' h mc ms) (kH G w h 0 0) 0 (zent av ++ List.replicate n none) []) : kC G M av w h w' mc ms := by
  intro l
  refine Met.ofW (cc := zm_cc M) (maxL := zm_nL M) (ret := zm_ret M) (ws' := zt_tbl) hp rfl ?_
  intro p e s m args below meth c s₁ B hml h0
  obtain ⟨rfl, ⟨hP, hK, hD, hN, hZ⟩, hsz, hAO⟩ := h0
  have hts := atoms_spec (ws := zm_ws M) B.pre
  have hown : s.vm.findClass (zm_y M).cls = some m.cls := findClass_of_methodNamed B.named
  have hin : meth.name = "<init>" := ((name_of_methodNamed B.named B.method).1).trans hnm
  have hl := lv_entry av (n := zm_nL M) hn
  rw [lg_entry_eq]
  exact hv p l e s m av.toArray below meth c s.heap [] _ 0 0 ⟨B.exec, B.bytes, ⟨B.exec, B.bytes, hml, B.returns, B.notSynchronized, hts, hown, hK, hN, hZ⟩, hin, hAO, by rw [hsz]; exact hA⟩ ⟨_, hl, fun i v hi => by have := zent_in av 0 i v (zent_pad av n i v hi); rw [Nat.zero_add] at this; exact this⟩ ⟨⟨hP, hD, va_S.rf⟩, hsz, rfl, rfl, hsz⟩
theorem kblind {G : zG} {w : zWd} {h : Nat} {av : List Value} : FrameBlind (va_Pc av (kAt G w h)) := by
  intro a U g mk q
  obtain ⟨h1, h2, h3, h4⟩ := q
  exact ⟨h1, (zblind (av := av) a U g mk ⟨h1, h2⟩).2, h3, va_AO.moved (u := U) (U := U.calling g mk a) (Vm.Alike.refl U.vm) h4⟩
theorem zob_i : Cond.instanceMethod Lib.objectInit ∈ zt_tbl := zt_t 27 (by decide +kernel) rfl
theorem zob_c : Cond.code Lib.objectInit ⟨#[0xb1]⟩ 1 none ∈ zt_tbl := zt_t 28 (by decide +kernel) rfl
theorem zac_i : Cond.arrayClass .int ∈ zt_tbl := zt_t 61 (by decide +kernel) rfl
theorem zac_l : Cond.arrayClass .long ∈ zt_tbl := zt_t 209 (by decide +kernel) rfl
/-- what the tables say of a class whose objects are made -/
def zknew (R : String) (idx ci N : Nat) : Prop := ∃ (C : String) (T : u_T) (ty : Nat → FieldType), vwCl[ci]? = some (C, T, N) ∧ (∀ w ∈ u_ws C T N, w ∈ zt_tbl) ∧ (∀ k, k < N → parseFieldDescriptor (T k).2.2.1 = some (ty k)) ∧ Cond.classLink R idx C ∈ zt_tbl ∧ Cond.instantiable C N ∈ zt_tbl ∧ Cond.initialized C ∈ zt_tbl ∧ ∀ j, j < N → defaultValue (ty j) = vp_V (z_fs (fun _ => 0) (fun _ => 0) (fun _ => none) 0 (zk_f ci)) j
theorem kpush {G : zG} {S : zSh} {σ τ : zSt} {s : State} {H H1 : Heap} {locs : List Loc} {h1 : Nat} (hH : zH G (S, σ, τ) s H locs) (hsz : H.size = h1) (hA : ∀ q, s.heap.size ≤ q → zgA G q) (z1 : H1.size = h1 + 1) (o1 : ∀ q, q < h1 → H1[q]? = H[q]?) (hat : va_at (zgD G) vwCl (h1, z_cell G (S, σ, τ) h1) H1) : zH G ((S.1 ++ [h1], S.2.1, S.2.2), σ, τ) s H1 locs := by
  obtain ⟨hP, hD, hS⟩ := hH
  subst hsz
  have e : z_ws G ((S.1 ++ [H.size], S.2.1, S.2.2), σ, τ) = z_ws G (S, σ, τ) ++ [(H.size, z_cell G (S, σ, τ) H.size)] := by
    show va_pl (S.1 ++ [H.size]) (z_cell G (S, σ, τ)) = va_pl S.1 (z_cell G (S, σ, τ)) ++ [(H.size, z_cell G (S, σ, τ) H.size)]
    simp [va_pl]
  have hk : ∀ (k : Nat) (x : Nat × va_E), (z_ws G (S, σ, τ))[k]? = some x → H1[x.1]? = H[x.1]? := fun k x hx => o1 x.1 ((hP k x hx).lt)
  refine ⟨?_, ?_, ⟨Nat.le_trans hS.1 (by omega), fun x h1 h2 => (o1 x (Nat.lt_of_lt_of_le h1 hS.1)).trans (hS.2.1 x h1 h2), hS.2.2⟩⟩
  · rw [e]
    refine (hP.kept hk).app (fun k x hx => ?_)
    have hz : k < 1 := (List.getElem?_eq_some_iff.mp hx).1
    rw [show k = 0 by omega] at hx
    cases hx
    exact hat
  · rw [e]
    exact hD.push hP rfl (hA _ hS.1)
def zq (ρ : Nat → Nat → Option Nat) (a k : Nat) (v : Option Nat) : Nat → Nat → Option Nat := fun b j => if b = a ∧ j = k then v else ρ b j
theorem z_fs_cong2 {σ τ σ' τ' : Nat → Int} {ρ ρ' : Nat → Option Nat} : ∀ (ks : List Nat) (i : Nat), (∀ j t, i ≤ j → z_v σ τ ρ j t = z_v σ' τ' ρ' j t) → z_fs σ τ ρ i ks = z_fs σ' τ' ρ' i ks
  | [], _, _ => rfl
  | t :: r, i, h => by simp only [z_fs]; rw [h i t (Nat.le_refl _), z_fs_cong2 r (i + 1) (fun j t hj => h j t (by omega))]
theorem z_fs_set2 {σ τ σ' τ' : Nat → Int} {ρ ρ' : Nat → Option Nat} : ∀ (ks : List Nat) (i k t : Nat), ks[k]? = some t → (∀ j t', j ≠ i + k → z_v σ τ ρ j t' = z_v σ' τ' ρ' j t') → (z_fs σ τ ρ i ks).set k (z_v σ' τ' ρ' (i + k) t) = z_fs σ' τ' ρ' i ks
  | [], _, _, _, h, _ => by simp at h
  | t :: r, i, 0, t', h, hj => by
    simp at h; subst h
    simp only [z_fs, List.set_cons_zero, Nat.add_zero]
    rw [z_fs_cong2 r (i + 1) (fun j t h2 => hj j t (by omega))]
  | t :: r, i, k + 1, t', h, hj => by
    simp only [List.getElem?_cons_succ] at h
    simp only [z_fs, List.set_cons_succ]
    rw [hj i t (by omega), show i + (k + 1) = i + 1 + k by omega, z_fs_set2 r (i + 1) k t' h (fun j t h2 => hj j t (by omega))]
theorem z_putq {G : zG} {S : zSh} {σ τ : zSt} {ρ' : Nat → Nat → Option Nat} {A : Nat → Prop} {a k c n : Nat} {e : va_E} (hD : va_D A (z_ws G (S, σ, τ))) (h : zo S a c n) (hk : (z_ws G (S, σ, τ))[k]? = some (a, z_cell G (S, σ, τ) a)) (he : e = z_cell G ((S.1, S.2.1, ρ'), σ, τ) a) (hn : ∀ b, b ≠ a → ρ' b = S.2.2 b) :
    (z_ws G (S, σ, τ)).set k (a, e) = z_ws G ((S.1, S.2.1, ρ'), σ, τ) := by
  have h1 := va_pl_set (X := []) (e := e) hD h.1 hk
  refine Eq.trans h1 ?_
  show va_pl S.1 (va_up (z_cell G (S, σ, τ)) a e) = va_pl S.1 (z_cell G ((S.1, S.2.1, ρ'), σ, τ))
  refine va_pl_congr fun b => ?_
  by_cases hb : b = a
  · subst hb; rw [va_up_self, he]
  · rw [va_up_ne _ _ hb]
    simp only [z_cell]
    rw [hn b hb]
/-- a final field of a constructor's own class, of references -/
def zff (R : String) (idx ci k : Nat) : Prop := ci < 12 ∧ (zk_f ci)[k]? = some 2 ∧ ∃ (C : String) (T : u_T) (N : Nat) (ty : FieldType), zc_ok ci C T N ∧ k < N ∧ Cond.fieldLink R idx (T k).1 (T k).2.1 (T k).2.2.1 ∈ zt_tbl ∧ (T k).2.2.2 = true ∧ (T k).1 = R ∧ parseFieldDescriptor (T k).2.2.1 = some ty ∧ ∀ a, narrow ty (.ref a) = .ref a ∧ fits ty (.ref a) = true
theorem kpin {G : zG} {S : zSh} {σ τ : zSt} {H : Heap} {h1 : Nat} (hP : va_P (zgD G) vwCl (z_ws G (S, σ, τ)) H) (h : ∃ x, x ∈ S.1 ∧ x + 1 = h1) : h1 ≤ H.size := by
  obtain ⟨x, hx, rfl⟩ := h
  obtain ⟨k, hk⟩ := va_pl_get (X := []) (f := z_cell G (S, σ, τ)) hx
  have h2 := (hP k _ hk).lt
  exact h2
section KV
variable {G : zG} {M : zMt} {w' : zWd} {h mc ms h1 n k : Nat} {pc : Nat} {lv : List (Option Value)} {st : List Value} {S : zSh} {σ τ : zSt}
theorem kv_ret {w : zWd} (hd : decode (zm_cc M) pc = .ok (.return_, 1)) (hr : zm_ret M = none) (hw : w = w') (hh : h1 = h + mc) (hn : n = mc) (hk : k ≤ ms) : gV (kX G M w' h mc ms) (kH G w h1 n k) pc lv [] := by
  subst hw
  subst hn
  intro p l e s m args below meth c H locs ls cells slots hc hl hh2
  obtain ⟨hz, hsz, rfl, rfl, hs0⟩ := hh2
  obtain ⟨hx, hb, hcx, hin, hAO, hA⟩ := hc
  refine W.widen (k := cells) (n := ms) (Nat.le_refl _) hk ?_
  exact W.vret hx hb (hcx.2.2.2.1.trans hr) (fun t ht hW => ⟨⟨rfl, zAt_end hcx hz ht hW, by rw [ht, hsz, hh], hAO.moved hW.alike⟩, hz.2.2.F ht⟩) hz.2.2.2.2 hd hcx.2.2.2.2.1
theorem kv_obj {Hh : gH} {idx a : Nat} (q : Nat) (hq : pc + 3 = q) (hd : decode (zm_cc M) pc = .ok (.invokespecial idx, 3)) (hk : Cond.methodLink (zm_y M).cls idx Lib.objectInit ∈ zt_tbl) (hR : 1 ≤ zm_fr M ∧ (st.map fun v => v.category).sum + 12 ≤ zm_lw M) (kk : gV (kX G M w' h mc ms) Hh q lv st) : gV (kX G M w' h mc ms) Hh pc lv (.ref a :: st) := by
  subst hq
  intro p l e s m args below meth c H locs ls cells slots hc hl hh
  have kk := kk p l e s m args below meth c H locs ls cells slots hc hl hh
  obtain ⟨hx, hb, ⟨-, -, hml, hr, hlk, hts, hown, hK, hN, hZ⟩, hin, hAO, hA⟩ := hc
  have tb : ∀ w ∈ zt_tbl, w.before args s = true := fun w hw => hts w (List.mem_cons_of_mem _ hw)
  refine W.objInit (rest := st) hx hb hown (tb _ hk) (tb _ zob_i) (tb _ zob_c) rfl (by rw [hml]; exact hl.size) rfl hd hR.1 ?_ ?_
  · show 2 * 0 + (st.map fun v => v.category).sum + 12 ≤ zm_lw M
    omega
  · exact kk
theorem kv_new {idx ci N n0 : Nat} (q : Nat) (hq : pc + 3 = q) (hd : decode (zm_cc M) pc = .ok (.new idx, 3)) (hk : zknew (zm_y M).cls idx ci N) (h12 : ci < 12) (hS : S.2.1 h1 = (ci, n0)) (hρ : S.2.2 h1 = fun _ => none) (hσ : σ h1 = fun _ => 0) (hτ : τ h1 = fun _ => 0) (hm : n + 1 ≤ mc ∧ k + N ≤ ms) (kk : gV (kX G M w' h mc ms) (kH G ((S.1 ++ [h1], S.2.1, S.2.2), σ, τ) (h1 + 1) (n + 1) (k + N)) q lv (.ref h1 :: st)) : gV (kX G M w' h mc ms) (kH G (S, σ, τ) h1 n k) pc lv st := by
  subst hq
  intro p l e s m args below meth c H locs ls cells slots hc hl hh
  have hc0 := hc
  obtain ⟨hz, hsz, rfl, rfl, hs0⟩ := hh
  obtain ⟨hx, hb, ⟨-, -, hml, hr, hlk, hts, hown, hK, hN, hZ⟩, hin, hAO, hA⟩ := hc
  have tb : ∀ w ∈ zt_tbl, w.before args s = true := fun w hw => hts w (List.mem_cons_of_mem _ hw)
  obtain ⟨C, T, ty, hcl, hin2, hty, h4, h5, h6, hdf⟩ := hk
  have hKn := hK.1 ci _ hcl
  refine W.newcK hx hb hown (tb _ h4) (tb _ h5) (tb _ h6) rfl hd hm.1 hm.2 hKn.2.1 hsz fun H1 kC hkC e1 z1 o1 => ?_
  refine kk p l e s m args below meth c H1 locs ls _ _ hc0 hl ⟨kpush hz hsz hA z1 o1 ?_, z1, rfl, rfl, by omega⟩
  have hcell : z_cell G (S, σ, τ) h1 = .inr (ci, z_fs (fun _ => 0) (fun _ => 0) (fun _ => none) 0 (zk_f ci)) := by simp [z_cell, hS, h12, hρ, hσ, hτ]
  rw [hcell]
  exact ⟨_, hcl, (u_born ty hts (fun w hw => List.mem_cons_of_mem _ (hin2 w hw)) hKn hkC e1 hty).to hdf⟩
theorem kv_newi {N : Nat} (q : Nat) (hq : pc + 2 = q) (hd : decode (zm_cc M) pc = .ok (.newarray .int, 2)) (hN : N < 20000000) (hS : S.2.1 h1 = (12, N)) (hσ : σ h1 = fun _ => 0) (hm : n + 1 ≤ mc ∧ k + N ≤ ms) (kk : gV (kX G M w' h mc ms) (kH G ((S.1 ++ [h1], S.2.1, S.2.2), σ, τ) (h1 + 1) (n + 1) (k + N)) q lv (.ref h1 :: st)) : gV (kX G M w' h mc ms) (kH G (S, σ, τ) h1 n k) pc lv (vi (N : Int) :: st) := by
  subst hq
  intro p l e s m args below meth c H locs ls cells slots hc hl hh
  have hc0 := hc
  obtain ⟨hz, hsz, rfl, rfl, hs0⟩ := hh
  obtain ⟨hx, hb, ⟨-, -, hml, hr, hlk, hts, hown, hK, hN2, hZ⟩, hin, hAO, hA⟩ := hc
  have tb : ∀ w ∈ zt_tbl, w.before args s = true := fun w hw => hts w (List.mem_cons_of_mem _ hw)
  refine va_newaK (atype := .int) (N := N) hx hb (tb _ zac_i) rfl hd rfl (by rw [zI_0, zI_lt (by omega) (by omega)]; omega) (by rw [zI_cl (by omega)]; omega) (by show N * 4 ≤ 536870912; omega) hm.1 hm.2 hsz fun H1 cA e1 z1 o1 hAr hNm => ?_
  refine kk p l e s m args below meth c H1 locs ls _ _ hc0 hl ⟨kpush hz hsz hA z1 o1 ?_, z1, rfl, rfl, by omega⟩
  have hcA : cA = G.2.1.1 := Option.some.inj (hNm.symm.trans (hK.2 0 _ rfl).2)
  have hcell : z_cell G (S, σ, τ) h1 = .inl (G.2.1.1, N, .inl (fun _ => zI 0)) := by simp [z_cell, hS, hσ]
  rw [hcell, ← hcA]
  exact e1
theorem kv_newl {N : Nat} (q : Nat) (hq : pc + 2 = q) (hd : decode (zm_cc M) pc = .ok (.newarray .long, 2)) (hN : N < 20000000) (hS : S.2.1 h1 = (13, N)) (hτ : τ h1 = fun _ => 0) (hm : n + 1 ≤ mc ∧ k + N ≤ ms) (kk : gV (kX G M w' h mc ms) (kH G ((S.1 ++ [h1], S.2.1, S.2.2), σ, τ) (h1 + 1) (n + 1) (k + N)) q lv (.ref h1 :: st)) : gV (kX G M w' h mc ms) (kH G (S, σ, τ) h1 n k) pc lv (vi (N : Int) :: st) := by
  subst hq
  intro p l e s m args below meth c H locs ls cells slots hc hl hh
  have hc0 := hc
  obtain ⟨hz, hsz, rfl, rfl, hs0⟩ := hh
  obtain ⟨hx, hb, ⟨-, -, hml, hr, hlk, hts, hown, hK, hN2, hZ⟩, hin, hAO, hA⟩ := hc
  have tb : ∀ w ∈ zt_tbl, w.before args s = true := fun w hw => hts w (List.mem_cons_of_mem _ hw)
  refine va_newaK (atype := .long) (N := N) hx hb (tb _ zac_l) rfl hd rfl (by rw [zI_0, zI_lt (by omega) (by omega)]; omega) (by rw [zI_cl (by omega)]; omega) (by show N * 8 ≤ 536870912; omega) hm.1 hm.2 hsz fun H1 cA e1 z1 o1 hAr hNm => ?_
  refine kk p l e s m args below meth c H1 locs ls _ _ hc0 hl ⟨kpush hz hsz hA z1 o1 ?_, z1, rfl, rfl, by omega⟩
  have hcA : cA = G.2.1.2.1 := Option.some.inj (hNm.symm.trans (hK.2 1 _ rfl).2)
  have hcell : z_cell G (S, σ, τ) h1 = .inl (G.2.1.2.1, N, .inr (.inl (fun _ => zL 0))) := by simp [z_cell, hS, hτ]
  rw [hcell, ← hcA]
  exact e1
theorem kv_newq {N idx : Nat} (q : Nat) (hq : pc + 3 = q) (hd : decode (zm_cc M) pc = .ok (.anewarray idx, 3)) (hk : Cond.classLink (zm_y M).cls idx "ShadeGrid$Picture" ∈ zt_tbl) (hN : N < 20000000) (hS : S.2.1 h1 = (14, N)) (hρ : S.2.2 h1 = fun _ => none) (hm : n + 1 ≤ mc ∧ k + N ≤ ms) (kk : gV (kX G M w' h mc ms) (kH G ((S.1 ++ [h1], S.2.1, S.2.2), σ, τ) (h1 + 1) (n + 1) (k + N)) q lv (.ref h1 :: st)) : gV (kX G M w' h mc ms) (kH G (S, σ, τ) h1 n k) pc lv (vi (N : Int) :: st) := by
  subst hq
  intro p l e s m args below meth c H locs ls cells slots hc hl hh
  have hc0 := hc
  obtain ⟨hz, hsz, rfl, rfl, hs0⟩ := hh
  obtain ⟨hx, hb, ⟨-, -, hml, hr, hlk, hts, hown, hK, hN2, hZ⟩, hin, hAO, hA⟩ := hc
  have tb : ∀ w ∈ zt_tbl, w.before args s = true := fun w hw => hts w (List.mem_cons_of_mem _ hw)
  have hcl : (zI (N : Int)).toNatClampNeg = N := by rw [zI_cl (by omega)]; omega
  refine W.anew (rest := st) hx hb hown (tb _ hk) (va_AO.use hAO) rfl hd rfl (by rw [zI_0, zI_lt (by omega) (by omega)]; omega) (by rw [hcl]; omega) hm.1 (by rw [hcl]; exact hm.2) fun cA kA comp f1 f2 f3 f4 => ?_
  rw [hcl]
  subst hsz
  generalize hH1 : H.push ({ cls := cA, slots := Array.replicate N .null, vm := .none } : Cell) = H1
  have z1 : H1.size = H.size + 1 := by rw [← hH1, Array.size_push]
  have e1 : H1[H.size]? = some (arrV cA N (fun _ => .null)) := by rw [← hH1, Array.getElem?_push_size, ← arrV_new]
  have o1 : ∀ q : Nat, q < H.size → H1[q]? = H[q]? := fun q hq => by rw [← hH1, Array.getElem?_push, if_neg (Nat.ne_of_lt hq)]
  refine kk p l e s m args below meth c H1 locs ls _ _ hc0 hl ⟨kpush hz rfl hA z1 o1 ?_, z1, rfl, rfl, by omega⟩
  obtain ⟨kA2, comp2, g1, g2, g3, g4⟩ := (hK.2 2 _ rfl).2
  have hcA : cA = G.2.1.2.2 := Option.some.inj (f1.symm.trans g4)
  have hcell : z_cell G (S, σ, τ) H.size = .inl (G.2.1.2.2, N, .inr (.inr (.inr (.inr (fun _ => none))))) := by simp [z_cell, hS, hρ]
  rw [hcell, ← hcA]
  show H1[H.size]? = some (vp_cell _ _)
  rw [vp_cell_q]
  exact e1
theorem kv_put {idx ci j a n0 b : Nat} {ρ' : Nat → Nat → Option Nat} (q : Nat) (hq : pc + 3 = q) (hd : decode (zm_cc M) pc = .ok (.putfield idx, 3)) (hf : zff (zm_y M).cls idx ci j) (ho : zo S a ci n0) (hlast : ∃ x, x ∈ S.1 ∧ x + 1 = h1) (hρ : ρ' = zq S.2.2 a j (some b)) (kk : gV (kX G M w' h mc ms) (kH G ((S.1, S.2.1, ρ'), σ, τ) h1 n k) q lv st) : gV (kX G M w' h mc ms) (kH G (S, σ, τ) h1 n k) pc lv (.ref b :: .ref a :: st) := by
  subst hq
  intro p l e s m args below meth c H locs ls cells slots hc hl hh
  have hc0 := hc
  obtain ⟨hz, hsz, rfl, rfl, hs0⟩ := hh
  obtain ⟨hx, hb, ⟨-, -, hml, hr, hlk, hts, hown, hK, hN2, hZ⟩, hin, hAO, hA⟩ := hc
  have tb : ∀ w ∈ zt_tbl, w.before args s = true := fun w hw => hts w (List.mem_cons_of_mem _ hw)
  obtain ⟨h12, hkt, C, T, N, ty, ⟨hcl, hin2, ⟨ty0, hty0⟩, hnm⟩, hkN, hlink, hfin, hdecl, hty, hnf⟩ := hf
  obtain ⟨q0, hq00⟩ := z_at (G := G) (σ := σ) (τ := τ) ho
  have hq0 := hq00
  rw [z_cell_o ho h12] at hq0
  have hlen : j < (z_fs (σ a) (τ a) (S.2.2 a) 0 (zk_f ci)).length := by rw [z_fs_len]; exact (List.getElem?_eq_some_iff.mp hkt).1
  have hset : (z_ws G (S, σ, τ)).set q0 (a, .inr (ci, (z_fs (σ a) (τ a) (S.2.2 a) 0 (zk_f ci)).set j (.ref b))) = z_ws G ((S.1, S.2.1, ρ'), σ, τ) := by
    refine z_putq hz.2.1 ho hq00 ?_ (fun b hb => by rw [hρ]; funext x; simp [zq, hb])
    rw [z_cell_o (S := (S.1, S.2.1, ρ')) ho h12]
    have h9 := z_fs_set2 (σ := σ a) (τ := τ a) (σ' := σ a) (τ' := τ a) (ρ := S.2.2 a) (ρ' := ρ' a) (zk_f ci) 0 j 2 hkt (fun x t' hx => by rw [Nat.zero_add] at hx; simp [z_v, hρ, zq, hx])
    rw [Nat.zero_add] at h9
    rw [← h9]
    congr 3
    simp [z_v, hρ, zq, va_rf]
  refine va_putF hx hb hts (fun w hw => List.mem_cons_of_mem _ (hin2 w hw)) ty0 hty0 hnm hown hK hz.1 hz.2.1 hz.2.2 q0 hq0 hcl j hkN (tb _ hlink) (fun _ h9 => h9) hfin hin hdecl hty (hnf b).1 (hnf b).2 hlen hd ?_
  intro H1 locs1 hP hD hS
  rw [hset] at hP hD
  refine W.sized fun hup => ?_
  have hlow := kpin hP hlast
  exact kk p l e s m args below meth c H1 locs1 ls _ _ hc0 hl ⟨⟨hP, hD, hS⟩, by omega, rfl, rfl, hs0⟩
theorem kv_puti {idx ci j a n0 : Nat} {v : Int} (q : Nat) (hq : pc + 3 = q) (hd : decode (zm_cc M) pc = .ok (.putfield idx, 3)) (hf : zfp (zm_y M).cls idx ci j 0 .int) (ho : zo S a ci n0) (hlast : ∃ x, x ∈ S.1 ∧ x + 1 = h1) (kk : gV (kX G M w' h mc ms) (kH G (S, zu σ a j v, τ) h1 n k) q lv st) : gV (kX G M w' h mc ms) (kH G (S, σ, τ) h1 n k) pc lv (vi v :: .ref a :: st) := by
  subst hq
  intro p l e s m args below meth c H locs ls cells slots hc hl hh
  have hc0 := hc
  obtain ⟨hz, hsz, rfl, rfl, hs0⟩ := hh
  obtain ⟨hx, hb, ⟨-, -, hml, hr, hlk, hts, hown, hK, hN2, hZ⟩, hin, hAO, hA⟩ := hc
  have tb : ∀ w ∈ zt_tbl, w.before args s = true := fun w hw => hts w (List.mem_cons_of_mem _ hw)
  obtain ⟨h12, hkt, C, T, N, ⟨hcl, hin2, ⟨ty0, hty0⟩, hnm⟩, hkN, hlink, hfin, hty⟩ := hf
  obtain ⟨q0, hq00⟩ := z_at (G := G) (σ := σ) (τ := τ) ho
  have hq0 := hq00
  rw [z_cell_o ho h12] at hq0
  have hlen : j < (z_fs (σ a) (τ a) (S.2.2 a) 0 (zk_f ci)).length := by rw [z_fs_len]; exact (List.getElem?_eq_some_iff.mp hkt).1
  have hset : (z_ws G (S, σ, τ)).set q0 (a, .inr (ci, (z_fs (σ a) (τ a) (S.2.2 a) 0 (zk_f ci)).set j (vi v))) = z_ws G (S, zu σ a j v, τ) := by
    refine z_put hz.2.1 ho hq00 ?_ (fun b hb => ⟨zu_row σ v hb, rfl⟩)
    rw [z_cell_o ho h12]
    have h9 := z_fs_set (σ := σ a) (τ := τ a) (σ' := zu σ a j v a) (τ' := τ a) (ρ := S.2.2 a) (zk_f ci) 0 j 0 hkt (fun x t' hx => by rw [Nat.zero_add] at hx; simp [z_v, zu, hx])
    rw [Nat.zero_add] at h9
    rw [← h9]
    congr 3
    simp [z_v, zu]
  have kk2 : ∀ (H1 : Heap) (locs1 : List Loc), va_P (zgD G) vwCl ((z_ws G (S, σ, τ)).set q0 (a, .inr (ci, (z_fs (σ a) (τ a) (S.2.2 a) 0 (zk_f ci)).set j (vi v)))) H1 → va_D (zgA G) ((z_ws G (S, σ, τ)).set q0 (a, .inr (ci, (z_fs (σ a) (τ a) (S.2.2 a) 0 (zk_f ci)).set j (vi v)))) → va_S (zgA G) s.heap H1 locs1 → W p l e (zm_rk M mc ms) s m args below meth c H1 locs1 cells slots (MQ below (kQ G w' (h + mc)) args s mc ms (zgA G)) (F0 m (pc + 3) ls st) := by
    intro H1 locs1 hP hD hS
    rw [hset] at hP hD
    refine W.sized fun hup => ?_
    have hlow := kpin hP hlast
    exact kk p l e s m args below meth c H1 locs1 ls _ _ hc0 hl ⟨⟨hP, hD, hS⟩, by omega, rfl, rfl, hs0⟩
  rcases hlink with h | ⟨host, h⟩
  · exact va_put hx hb hts (fun w hw => List.mem_cons_of_mem _ (hin2 w hw)) ty0 hty0 hnm hown hK hz.1 hz.2.1 hz.2.2 q0 hq0 hcl j hkN (hts _ (List.mem_cons_of_mem _ h)) (fun _ h9 => h9) hfin hty rfl rfl hlen hd kk2
  · exact va_putN hx hb hts (fun w hw => List.mem_cons_of_mem _ (hin2 w hw)) ty0 hty0 hnm hown hK hz.1 hz.2.1 hz.2.2 q0 hq0 hcl j hkN (va_Nw.use rfl (hN2 _ h)) (fun _ h9 => h9) hfin hty rfl rfl hlen hd kk2
theorem kv_aast {a n0 m0 b : Nat} {i : Int} {ρ' : Nat → Nat → Option Nat} (q : Nat) (hq : pc + 1 = q) (hd : decode (zm_cc M) pc = .ok (.aastore, 1)) (ho : zo S a 14 n0) (hv : zo S b 5 m0) (hi : 0 ≤ i ∧ i < n0) (hi2 : i ≤ 2147483647) (hlast : ∃ x, x ∈ S.1 ∧ x + 1 = h1) (hρ : ρ' = zq S.2.2 a i.toNat (some b)) (kk : gV (kX G M w' h mc ms) (kH G ((S.1, S.2.1, ρ'), σ, τ) h1 n k) q lv st) : gV (kX G M w' h mc ms) (kH G (S, σ, τ) h1 n k) pc lv (.ref b :: vi i :: .ref a :: st) := by
  subst hq
  intro p l e s m args below meth c H locs ls cells slots hc hl hh
  have hc0 := hc
  obtain ⟨hz, hsz, rfl, rfl, hs0⟩ := hh
  obtain ⟨hx, hb, ⟨-, -, hml, hr, hlk, hts, hown, hK, hN2, hZ⟩, hin, hAO, hA⟩ := hc
  obtain ⟨q0, hq00⟩ := z_at (G := G) (σ := σ) (τ := τ) ho
  obtain ⟨qk, hqk⟩ := z_at (G := G) (σ := σ) (τ := τ) hv
  have hq0 := hq00
  rw [z_cell_q ho] at hq0
  rw [z_cell_o hv (by omega)] at hqk
  refine va_astq hx hb hK hz.1 hz.2.1 hz.2.2 q0 2 qk 5 (r := (RX5, TX5, 3)) hq0 rfl hqk rfl (zI_in hi hi2) hd ?_
  intro H1 locs1 hP hD hS
  have hset : (z_ws G (S, σ, τ)).set q0 (a, .inl (G.2.1.2.2, n0, .inr (.inr (.inr (.inr (va_up (S.2.2 a) (zI i).toNatClampNeg (some b))))))) = z_ws G ((S.1, S.2.1, ρ'), σ, τ) := by
    refine z_putq hz.2.1 ho hq00 ?_ (fun b hb => by rw [hρ]; funext x; simp [zq, hb])
    rw [z_cell_q (S := (S.1, S.2.1, ρ')) ho, zI_cl (by omega)]
    congr 7
    funext x
    simp only [hρ, zq, va_up]
    by_cases hx : x = i.toNat <;> simp [hx]
  rw [hset] at hP hD
  refine W.sized fun hup => ?_
  have hlow := kpin hP hlast
  exact kk p l e s m args below meth c H1 locs1 ls _ _ hc0 hl ⟨⟨hP, hD, hS⟩, by omega, rfl, rfl, hs0⟩
theorem kv_getr {idx ci j a n0 b : Nat} (q : Nat) (hq : pc + 3 = q) (hd : decode (zm_cc M) pc = .ok (.getfield idx, 3)) (hf : zfl (zm_y M).cls idx ci j 2) (ho : zo S a ci n0) (hr : S.2.2 a j = some b) (kk : gV (kX G M w' h mc ms) (kH G (S, σ, τ) h1 n k) q lv (.ref b :: st)) : gV (kX G M w' h mc ms) (kH G (S, σ, τ) h1 n k) pc lv (.ref a :: st) := by
  subst hq
  intro p l e s m args below meth c H locs ls cells slots hc hl hh
  have kk := kk p l e s m args below meth c H locs ls cells slots hc hl hh
  obtain ⟨hz, -⟩ := hh
  obtain ⟨h12, hkt, C, T, N, ⟨hcl, hin, -, -⟩, hk, hlink⟩ := hf
  obtain ⟨q0, hq0⟩ := z_at (G := G) (σ := σ) (τ := τ) ho
  rw [z_cell_o ho h12] at hq0
  have hv := z_fs_get (σ a) (τ a) (S.2.2 a) (zk_f ci) 0 j 2 hkt
  have ev : z_v (σ a) (τ a) (S.2.2 a) (0 + j) 2 = .ref b := by simp [z_v, hr, va_rf]
  rw [ev] at hv
  obtain ⟨hx, hb, ⟨-, -, hml, hr, hlk, hts, hown, hK, hN, hZ⟩, hin2, hAO, hA⟩ := hc
  rcases hlink with h | ⟨host, h⟩
  · exact va_get hx hb hts (fun w hw => List.mem_cons_of_mem _ (hin w hw)) hown hK hz.1 q0 hq0 hcl j hk (hts _ (List.mem_cons_of_mem _ h)) (fun _ h9 => h9) hv hd kk
  · exact va_getN hx hb hts (fun w hw => List.mem_cons_of_mem _ (hin w hw)) hown hK hz.1 q0 hq0 hcl j hk (va_Nw.use rfl (hN _ h)) (fun _ h9 => h9) hv hd kk
/-- what the tables say of a constructor -/
def zm_I (M : zMt) : Prop := zm_B M ∧ Cond.instanceMethod (zm_y M) ∈ zt_tbl ∧ (zm_y M).name = "<init>" ∧ zm_ret M = none ∧ zm_n M = 0
theorem kv_call {M' : zMt} {idx b mc' ms' : Nat} {w w1 : zWd} (q : Nat) (hq : pc + 3 = q) (hd : decode (zm_cc M) pc = .ok (.invokespecial idx, 3)) (hI : zm_I M') (hlk : zml (zm_y M).cls idx M') (hR : zm_fr M' + 1 ≤ zm_fr M ∧ 8 + (zm_nL M' + 11) + zm_lw M' ≤ zm_lw M) (hw : (st.map fun v => v.category).sum ≤ 8) (hm : n + mc' ≤ mc ∧ k + ms' ≤ ms) (hC : kC G M' [.ref b] w h1 w1 mc' ms') (kk : gV (kX G M w' h mc ms) (kH G w1 (h1 + mc') (n + mc') (k + ms')) q lv st) : gV (kX G M w' h mc ms) (kH G w h1 n k) pc lv (.ref b :: st) := by
  subst hq
  intro p l e s m args below meth c H locs ls cells slots hc hl hh
  have hc0 := hc
  obtain ⟨hz, hsz, rfl, rfl, hs0⟩ := hh
  obtain ⟨hx, hb, hcx, hin, hAO, hA⟩ := hc
  have hfix : CallFix p m c (zm_cc M) (zm_nL M) s args (zm_ws M) (zm_y M).cls := ⟨hcx.1, hcx.2.1, hcx.2.2.1, hcx.2.2.2.2.2.2.1, hcx.2.2.2.2.2.1⟩
  have hpre : PreS s H (va_Pc [.ref b] (kAt G w h1)) [.ref b] := ⟨kblind, fun U hU hW => ⟨rfl, zAt_end hcx hz hU hW, by rw [hU]; exact hsz, hAO.moved hW.alike⟩⟩
  have hts := hcx.2.2.2.2.2.1
  have tb : ∀ w ∈ zt_tbl, w.before args s = true := fun w hw => hts w (List.mem_cons_of_mem _ hw)
  obtain ⟨hB, hin2, hnm, hret, hn0⟩ := hI
  have hrun : va_Run p l e (zm_rk M mc ms) s m args below meth c H locs cells slots mc' ms' (F0 m pc ls (.ref b :: st)) st (kQ G w1 (h1 + mc') [Value.ref b].toArray) (zgA G) := by
    rcases hlk with h | ⟨host, h⟩
    · have cw : CallB (zm_rk M mc ms) s args (zm_y M).cls idx (zm_y M') (zm_cc M') (zm_nL M') none (zm_ws M') (zm_rk M' mc' ms') mc' ms' (zm_n M') ∧ (zm_y M').name = "<init>" ∧ (Cond.instanceMethod (zm_y M')).before args s = true :=
        ⟨callB_of (zm_n M') hts (zg_in hB) (by rw [← hret]; rfl) rfl rfl (tb _ hB.2.1) (tb _ h) hB.2.2 hR, hnm, tb _ hin2⟩
      exact va_runI (As := []) (rest := st) hfix (hC l) cw hpre rfl hn0.symm hl.size rfl (lv_room hw) hd hm
    · have cw := va_cnB (R := zm_rk M mc ms) (ret := none) (own := (zm_y M).cls) (index := idx) (zm_n M') hts (zg_in (M := M) hB) (by rw [← hret]; rfl) (rm := zm_rk M' mc' ms') (mc := mc') (ms := ms') rfl rfl (hcx.2.2.2.2.2.2.2.2.1 _ h) (tb _ hB.2.1) hB.2.2 hR
      exact va_runIN (As := []) (rest := st) hfix (hC l) ⟨cw, hnm, tb _ hin2⟩ hpre rfl hn0.symm hl.size rfl (lv_room hw) hd hm
  intro T hT X
  obtain ⟨v, st₀, t, T', L, h0, X', hL, e1, e2, ⟨⟨hv, hAt, ht, hAO2⟩, hz2, hk2⟩, stp⟩ := hrun T hT X
  cases hv
  rw [h0] at hz2 hk2
  obtain ⟨hP, hK, hD, hN, hZ⟩ := hAt
  have hS : va_S (zgA G) s.heap T'.heap (locs ++ L) := ⟨Nat.le_trans hz.2.2.1 (by rw [e1]; exact hz2), fun q h1 h2 => by rw [e1, hk2 q (Nat.lt_of_lt_of_le h1 hz.2.2.1) h2]; exact hz.2.2.2.1 q h1 h2, fun q hq => by
      rcases List.mem_append.mp hq with h | h
      · exact hz.2.2.2.2 q h
      · exact hL q h⟩
  obtain ⟨t2, a1, b1⟩ := kk p l e s m args below meth c T'.heap (locs ++ L) ls _ _ hc0 hl ⟨⟨by rw [e1]; exact hP, hD, hS⟩, by rw [e1]; exact ht, rfl, rfl, by omega⟩ T' rfl X'
  exact ⟨t2, stp t2 a1, b1⟩
end KV
