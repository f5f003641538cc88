/-! ===== fields ===== -/
def zc_ok (ci : Nat) (C : String) (T : u_T) (N : Nat) : Prop := vwCl[ci]? = some (C, T, N) ∧ (∀ w ∈ u_ws C T N, w ∈ zt_tbl) ∧ (∃ ty0 : Nat → FieldType, ∀ k, k < N → parseFieldDescriptor (T k).2.2.1 = some (ty0 k)) ∧ ∀ a, a < N → ∀ b, b < N → a ≠ b → (T a).2.1 ≠ (T b).2.1
def zf_link (R : String) (idx : Nat) (T : u_T) (k : Nat) : Prop := Cond.fieldLink R idx (T k).1 (T k).2.1 (T k).2.2.1 ∈ zt_tbl ∨ ∃ host, Cond.fieldLinkNest R idx (T k).1 (T k).2.1 (T k).2.2.1 host ∈ zn_tbl
/-- entry idx of R's file is field k, of kind t, of the class ci -/
def zfl (R : String) (idx ci k t : Nat) : Prop := ci < 12 ∧ (zk_f ci)[k]? = some t ∧ ∃ (C : String) (T : u_T) (N : Nat), zc_ok ci C T N ∧ k < N ∧ zf_link R idx T k
/-- the same, of a field that isn't final, of a type ty -/
def zfp (R : String) (idx ci k t : Nat) (ty : FieldType) : Prop := ci < 12 ∧ (zk_f ci)[k]? = some t ∧ ∃ (C : String) (T : u_T) (N : Nat), zc_ok ci C T N ∧ k < N ∧ zf_link R idx T k ∧ (T k).2.2.2 = false ∧ parseFieldDescriptor (T k).2.2.1 = some ty
section ZF
variable {G : zG} {M : zMt} {Q : Option Value → zWd → Prop} {pc : Nat} {lv : List (Option Value)} {st : List Value} {S : zSh} {σ τ : zSt}
theorem zw_get {idx ci k t a n : Nat} (q : Nat) (hq : pc + 3 = q) (hd : decode (zm_cc M) pc = .ok (.getfield idx, 3)) (hf : zfl (zm_y M).cls idx ci k t) (ho : zo S a ci n) (kk : zW G M Q q lv (z_v (σ a) (τ a) (S.2.2 a) k t :: st) (S, σ, τ)) : zW G M Q pc lv (.ref a :: st) (S, σ, τ) := by
  subst hq
  intro p l e s m args below meth c H locs ls hc hl hh
  have kk := kk p l e s m args below meth c H locs ls hc hl hh
  obtain ⟨h12, hkt, C, T, N, ⟨hcl, hin, -, -⟩, hk, hlink⟩ := hf
  obtain ⟨q0, hq0⟩ := z_at (G := G) (σ := σ) (τ := τ) ho
  rw [z_cell_o ho h12] at hq0
  have hv := z_fs_get (σ a) (τ a) (S.2.2 a) (zk_f ci) 0 k t hkt
  rw [Nat.zero_add] at hv
  obtain ⟨hx, hb, hml, hr, hlk, hts, hown, hK, hN, hZ⟩ := hc
  rcases hlink with h | ⟨host, h⟩
  · exact va_get hx hb hts (fun w hw => List.mem_cons_of_mem _ (hin w hw)) hown hK hh.1 q0 hq0 hcl k hk (hts _ (List.mem_cons_of_mem _ h)) (fun _ h9 => h9) hv hd kk
  · exact va_getN hx hb hts (fun w hw => List.mem_cons_of_mem _ (hin w hw)) hown hK hh.1 q0 hq0 hcl k hk (va_Nw.use rfl (hN _ h)) (fun _ h9 => h9) hv hd kk
theorem zw_geti {idx ci k a n : Nat} (q : Nat) (hq : pc + 3 = q) (hd : decode (zm_cc M) pc = .ok (.getfield idx, 3)) (hf : zfl (zm_y M).cls idx ci k 0) (ho : zo S a ci n) (kk : zW G M Q q lv (vi (σ a k) :: st) (S, σ, τ)) : zW G M Q pc lv (.ref a :: st) (S, σ, τ) := zw_get q hq hd hf ho kk
theorem zw_getz {idx ci k a n : Nat} (q : Nat) (hq : pc + 3 = q) (hd : decode (zm_cc M) pc = .ok (.getfield idx, 3)) (hf : zfl (zm_y M).cls idx ci k 3) (ho : zo S a ci n) (kk : zW G M Q q lv (vi (σ a k) :: st) (S, σ, τ)) : zW G M Q pc lv (.ref a :: st) (S, σ, τ) := zw_get q hq hd hf ho kk
theorem zw_getl {idx ci k a n : Nat} (q : Nat) (hq : pc + 3 = q) (hd : decode (zm_cc M) pc = .ok (.getfield idx, 3)) (hf : zfl (zm_y M).cls idx ci k 1) (ho : zo S a ci n) (kk : zW G M Q q lv (vl (τ a k) :: st) (S, σ, τ)) : zW G M Q pc lv (.ref a :: st) (S, σ, τ) := zw_get q hq hd hf ho kk
theorem zw_getr {idx ci k a n b : Nat} (q : Nat) (hq : pc + 3 = q) (hd : decode (zm_cc M) pc = .ok (.getfield idx, 3)) (hf : zfl (zm_y M).cls idx ci k 2) (ho : zo S a ci n) (hr : S.2.2 a k = some b) (kk : zW G M Q q lv (.ref b :: st) (S, σ, τ)) : zW G M Q pc lv (.ref a :: st) (S, σ, τ) := by
  refine zw_get q hq hd hf ho ?_
  have e : z_v (σ a) (τ a) (S.2.2 a) k 2 = .ref b := by simp [z_v, hr, va_rf]
  rw [e]
  exact kk
theorem zw_put {idx ci k t a n : Nat} {v : Value} {ty : FieldType} {σ' τ' : zSt} (q : Nat) (hq : pc + 3 = q) (hd : decode (zm_cc M) pc = .ok (.putfield idx, 3)) (hf : zfp (zm_y M).cls idx ci k t ty) (ho : zo S a ci n) (hn : narrow ty v = v) (hfit : fits ty v = true) (hv : v = z_v (σ' a) (τ' a) (S.2.2 a) k t) (hs : ∀ j t', j ≠ k → z_v (σ a) (τ a) (S.2.2 a) j t' = z_v (σ' a) (τ' a) (S.2.2 a) j t') (hb' : ∀ b, b ≠ a → σ' b = σ b ∧ τ' b = τ b) (kk : zW G M Q q lv st (S, σ', τ')) : zW G M Q pc lv (v :: .ref a :: st) (S, σ, τ) := by
  subst hq
  intro p l e s m args below meth c H locs ls hc hl hh
  have hc0 := hc
  obtain ⟨h12, hkt, C, T, N, ⟨hcl, hin, ⟨ty0, hty0⟩, hnm⟩, hk, hlink, hfin, hty⟩ := hf
  obtain ⟨q0, hq00⟩ := z_at (G := G) (σ := σ) (τ := τ) ho
  have hq0 := hq00
  rw [z_cell_o ho h12] at hq0
  obtain ⟨hx, hb, hml, hr, hlk, hts, hown, hK, hN, hZ⟩ := hc
  have hlen : k < (z_fs (σ a) (τ a) (S.2.2 a) 0 (zk_f ci)).length := by rw [z_fs_len]; exact (List.getElem?_eq_some_iff.mp hkt).1
  have hset : (z_ws G (S, σ, τ)).set q0 (a, .inr (ci, (z_fs (σ a) (τ a) (S.2.2 a) 0 (zk_f ci)).set k v)) = z_ws G (S, σ', τ') := by
    refine z_put hh.2.1 ho hq00 ?_ hb'
    rw [z_cell_o ho h12]
    have h9 := z_fs_set (σ := σ a) (τ := τ a) (σ' := σ' a) (τ' := τ' a) (ρ := S.2.2 a) (zk_f ci) 0 k t hkt (fun j t' hj => hs j t' (by omega))
    rw [Nat.zero_add] at h9
    rw [hv, h9]
  have kk2 : ∀ (H1 : Heap) (locs1 : List Loc), va_P (zgD G) vwCl ((z_ws G (S, σ, τ)).set q0 (a, .inr (ci, (z_fs (σ a) (τ a) (S.2.2 a) 0 (zk_f ci)).set k v))) H1 → va_D (zgA G) ((z_ws G (S, σ, τ)).set q0 (a, .inr (ci, (z_fs (σ a) (τ a) (S.2.2 a) 0 (zk_f ci)).set k v))) → va_S (zgA G) s.heap H1 locs1 → W p l e (zm_rm M) s m args below meth c H1 locs1 0 0 (MQ below (zQ G Q) args s 0 0 (zgA G)) (F0 m (pc + 3) ls st) := by
    intro H1 locs1 hP hD hS
    rw [hset] at hP hD
    exact kk p l e s m args below meth c H1 locs1 ls hc0 hl ⟨hP, hD, hS⟩
  rcases hlink with h | ⟨host, h⟩
  · exact va_put hx hb hts (fun w hw => List.mem_cons_of_mem _ (hin w hw)) ty0 hty0 hnm hown hK hh.1 hh.2.1 hh.2.2 q0 hq0 hcl k hk (hts _ (List.mem_cons_of_mem _ h)) (fun _ h9 => h9) hfin hty hn hfit hlen hd kk2
  · exact va_putN hx hb hts (fun w hw => List.mem_cons_of_mem _ (hin w hw)) ty0 hty0 hnm hown hK hh.1 hh.2.1 hh.2.2 q0 hq0 hcl k hk (va_Nw.use rfl (hN _ h)) (fun _ h9 => h9) hfin hty hn hfit hlen hd kk2
theorem zw_puti {idx ci k a n : Nat} {v : Int} (q : Nat) (hq : pc + 3 = q) (hd : decode (zm_cc M) pc = .ok (.putfield idx, 3)) (hf : zfp (zm_y M).cls idx ci k 0 .int) (ho : zo S a ci n) (kk : zW G M Q q lv st (S, zu σ a k v, τ)) : zW G M Q pc lv (vi v :: .ref a :: st) (S, σ, τ) :=
  zw_put q hq hd hf ho rfl rfl (by simp [z_v, zu]) (fun j t' hj => by simp [z_v, zu, hj]) (fun b hb => ⟨zu_row σ v hb, rfl⟩) kk
theorem zw_putz {idx ci k a n : Nat} {v : Int} (q : Nat) (hq : pc + 3 = q) (hd : decode (zm_cc M) pc = .ok (.putfield idx, 3)) (hf : zfp (zm_y M).cls idx ci k 3 .boolean) (ho : zo S a ci n) (hv : v = 0 ∨ v = 1) (kk : zW G M Q q lv st (S, zu σ a k v, τ)) : zW G M Q pc lv (vi v :: .ref a :: st) (S, σ, τ) :=
  zw_put q hq hd hf ho (by rcases hv with rfl | rfl <;> rfl) (by rcases hv with rfl | rfl <;> rfl) (by simp [z_v, zu]) (fun j t' hj => by simp [z_v, zu, hj]) (fun b hb => ⟨zu_row σ v hb, rfl⟩) kk
theorem zw_putl {idx ci k a n : Nat} {v : Int} (q : Nat) (hq : pc + 3 = q) (hd : decode (zm_cc M) pc = .ok (.putfield idx, 3)) (hf : zfp (zm_y M).cls idx ci k 1 .long) (ho : zo S a ci n) (kk : zW G M Q q lv st (S, σ, zu τ a k v)) : zW G M Q pc lv (vl v :: .ref a :: st) (S, σ, τ) :=
  zw_put q hq hd hf ho rfl rfl (by simp [z_v, zu]) (fun j t' hj => by simp [z_v, zu, hj]) (fun b hb => ⟨rfl, zu_row τ v hb⟩) kk
/-! ===== rows ===== -/
theorem zw_iald {a n : Nat} {i : Int} (q : Nat) (hq : pc + 1 = q) (hd : decode (zm_cc M) pc = .ok (.iaload, 1)) (ho : zo S a 12 n) (hi : 0 ≤ i ∧ i < n) (hn : i ≤ 2147483647) (kk : zW G M Q q lv (vi (σ a i.toNat) :: st) (S, σ, τ)) : zW G M Q pc lv (vi i :: .ref a :: st) (S, σ, τ) := by
  subst hq
  intro p l e s m args below meth c H locs ls hc hl hh
  have kk := kk p l e s m args below meth c H locs ls hc hl hh
  obtain ⟨q0, hq0⟩ := z_at (G := G) (σ := σ) (τ := τ) ho
  rw [z_cell_i ho] at hq0
  refine va_iald hc.1 hc.2.1 hc.2.2.2.2.2.2.2.1 hh.1 q0 0 hq0 rfl (zI_in hi hn) hd ?_
  rw [zI_cl (by omega)]
  exact kk
theorem zw_lald {a n : Nat} {i : Int} (q : Nat) (hq : pc + 1 = q) (hd : decode (zm_cc M) pc = .ok (.laload, 1)) (ho : zo S a 13 n) (hi : 0 ≤ i ∧ i < n) (hn : i ≤ 2147483647) (kk : zW G M Q q lv (vl (τ a i.toNat) :: st) (S, σ, τ)) : zW G M Q pc lv (vi i :: .ref a :: st) (S, σ, τ) := by
  subst hq
  intro p l e s m args below meth c H locs ls hc hl hh
  have kk := kk p l e s m args below meth c H locs ls hc hl hh
  obtain ⟨q0, hq0⟩ := z_at (G := G) (σ := σ) (τ := τ) ho
  rw [z_cell_l ho] at hq0
  refine va_lald hc.1 hc.2.1 hc.2.2.2.2.2.2.2.1 hh.1 q0 1 hq0 rfl (zI_in hi hn) hd ?_
  rw [zI_cl (by omega)]
  exact kk
theorem zw_aald {a n b : Nat} {i : Int} (q : Nat) (hq : pc + 1 = q) (hd : decode (zm_cc M) pc = .ok (.aaload, 1)) (ho : zo S a 14 n) (hi : 0 ≤ i ∧ i < n) (hn : i ≤ 2147483647) (hr : S.2.2 a i.toNat = some b) (kk : zW G M Q q lv (.ref b :: st) (S, σ, τ)) : zW G M Q pc lv (vi i :: .ref a :: st) (S, σ, τ) := by
  subst hq
  intro p l e s m args below meth c H locs ls hc hl hh
  have kk := kk p l e s m args below meth c H locs ls hc hl hh
  obtain ⟨q0, hq0⟩ := z_at (G := G) (σ := σ) (τ := τ) ho
  rw [z_cell_q ho] at hq0
  refine va_aldq (C := "ShadeGrid$Picture") hc.1 hc.2.1 hc.2.2.2.2.2.2.2.1 hh.1 q0 2 hq0 rfl (zI_in hi hn) hd ?_
  rw [zI_cl (by omega), hr]
  exact kk
theorem zw_iast {a n : Nat} {i v : Int} (q : Nat) (hq : pc + 1 = q) (hd : decode (zm_cc M) pc = .ok (.iastore, 1)) (ho : zo S a 12 n) (hi : 0 ≤ i ∧ i < n) (hn : i ≤ 2147483647) (kk : zW G M Q q lv st (S, zu σ a i.toNat v, τ)) : zW G M Q pc lv (vi v :: vi i :: .ref a :: st) (S, σ, τ) := by
  subst hq
  intro p l e s m args below meth c H locs ls hc hl hh
  obtain ⟨q0, hq00⟩ := z_at (G := G) (σ := σ) (τ := τ) ho
  have hq0 := hq00
  rw [z_cell_i ho] at hq0
  refine va_iast hc.1 hc.2.1 hc.2.2.2.2.2.2.2.1 hh.1 hh.2.1 hh.2.2 q0 0 hq0 rfl (zI_in hi hn) hd ?_
  intro H1 locs1 hP hD hS
  have hset : (z_ws G (S, σ, τ)).set q0 (a, .inl (G.2.1.1, n, .inl (upd (fun j => zI (σ a j)) (zI i).toNatClampNeg (zI v)))) = z_ws G (S, zu σ a i.toNat v, τ) := by
    refine z_put hh.2.1 ho hq00 ?_ (fun b hb => ⟨zu_row σ v hb, rfl⟩)
    rw [z_cell_i ho, zI_cl (by omega)]
    congr 4
    funext j
    simp only [upd, zu]
    by_cases hj : j = i.toNat <;> simp [hj]
  rw [hset] at hP hD
  exact kk p l e s m args below meth c H1 locs1 ls hc hl ⟨hP, hD, hS⟩
theorem zw_last {a n : Nat} {i v : Int} (q : Nat) (hq : pc + 1 = q) (hd : decode (zm_cc M) pc = .ok (.lastore, 1)) (ho : zo S a 13 n) (hi : 0 ≤ i ∧ i < n) (hn : i ≤ 2147483647) (kk : zW G M Q q lv st (S, σ, zu τ a i.toNat v)) : zW G M Q pc lv (vl v :: vi i :: .ref a :: st) (S, σ, τ) := by
  subst hq
  intro p l e s m args below meth c H locs ls hc hl hh
  obtain ⟨q0, hq00⟩ := z_at (G := G) (σ := σ) (τ := τ) ho
  have hq0 := hq00
  rw [z_cell_l ho] at hq0
  refine va_last hc.1 hc.2.1 hc.2.2.2.2.2.2.2.1 hh.1 hh.2.1 hh.2.2 q0 1 hq0 rfl (zI_in hi hn) hd ?_
  intro H1 locs1 hP hD hS
  have hset : (z_ws G (S, σ, τ)).set q0 (a, .inl (G.2.1.2.1, n, .inr (.inl (vp_updL (fun j => zL (τ a j)) (zI i).toNatClampNeg (zL v))))) = z_ws G (S, σ, zu τ a i.toNat v) := by
    refine z_put hh.2.1 ho hq00 ?_ (fun b hb => ⟨rfl, zu_row τ v hb⟩)
    rw [z_cell_l ho, zI_cl (by omega)]
    congr 5
    funext j
    simp only [vp_updL, zu]
    by_cases hj : j = i.toNat <;> simp [hj]
  rw [hset] at hP hD
  exact kk p l e s m args below meth c H1 locs1 ls hc hl ⟨hP, hD, hS⟩
theorem zw_alen {a c n : Nat} (q : Nat) (hq : pc + 1 = q) (hd : decode (zm_cc M) pc = .ok (.arraylength, 1)) (ho : zo S a c n) (hcc : c = 12 ∨ c = 13) (kk : zW G M Q q lv (vi (n : Int) :: st) (S, σ, τ)) : zW G M Q pc lv (.ref a :: st) (S, σ, τ) := by
  subst hq
  intro p l e s m args below meth c H locs ls hc hl hh
  have kk := kk p l e s m args below meth c H locs ls hc hl hh
  obtain ⟨q0, hq0⟩ := z_at (G := G) (σ := σ) (τ := τ) ho
  rcases hcc with rfl | rfl
  · rw [z_cell_i ho] at hq0
    exact va_alen hc.1 hc.2.1 hc.2.2.2.2.2.2.2.1 hh.1 q0 0 hq0 rfl (v := zI n) (Int32.ofInt_eq_ofNat).symm hd kk
  · rw [z_cell_l ho] at hq0
    exact va_alen hc.1 hc.2.1 hc.2.2.2.2.2.2.2.1 hh.1 q0 1 hq0 rfl (v := zI n) (Int32.ofInt_eq_ofNat).symm hd kk
end ZF
/-! ===== calls ===== -/
/-- what the tables say of a method that is called -/
def zm_B (M : zMt) : Prop := Cond.code (zm_y M) (zm_cc M) (zm_nL M) (zm_ret M) ∈ zt_tbl ∧ Cond.initialized (zm_y M).cls ∈ zt_tbl ∧ ((zm_y M).cls ≠ "java/lang/invoke/MethodHandle" ∧ (zm_y M).cls ≠ "java/lang/invoke/VarHandle" ∧ (parseMethodDescriptor (zm_y M).desc).map (fun d => d.parameters.length) = some (zm_n M))
def zm_V (M : zMt) : Prop := zm_B M ∧ Cond.instanceMethod (zm_y M) ∈ zt_tbl ∧ Cond.selects (zm_y M).cls (zm_y M) (zm_y M) ∈ zt_tbl
def zm_S (M : zMt) : Prop := zm_B M ∧ Cond.static (zm_y M) ∈ zt_tbl
/-- entry idx of R's file is the method M -/
def zml (R : String) (idx : Nat) (M : zMt) : Prop := Cond.methodLink R idx (zm_y M) ∈ zt_tbl ∨ ∃ host, Cond.methodLinkNest R idx (zm_y M) host ∈ zn_tbl
theorem zg_in {M M' : zMt} (h : zm_B M') : GoodIn (zm_ws M) (zm_ws M') := by
  intro w hw
  have hg : w ∈ zt_tbl := by
    rcases List.mem_cons.mp hw with rfl | hw
    · exact h.1
    · exact hw
  exact ⟨List.mem_cons_of_mem _ hg, good_of_word (List.mem_filter.mp hg).2⟩
theorem zblind {G : zG} {w : zWd} {av : List Value} : FrameBlind (va_Pc av (zAt G w)) := by
  intro a U g mk h
  obtain ⟨h1, hP, hK, hD, hN, hZ⟩ := h
  exact ⟨h1, hP, va_K.moved (u := U) (U := U.calling g mk a) (Vm.Alike.refl U.vm) hK, hD, fun n hn => zn_same (s := U) (U := U.calling g mk a) hn rfl (hN n hn), zSta.moved (u := U) (U := U.calling g mk a) (Vm.Alike.refl U.vm) hZ⟩
theorem zAt_pre {G : zG} {M : zMt} {w : zWd} {p : Program} {s U : State} {m : MethodId} {args : Array Value} {meth : Method} {c : Code} {H : Heap} {locs : List Loc} {av : List Value} (hc : zCx G M p s m args meth c) (hh : zH G w s H locs) (ht : U.heap = H) (hW : s.WarmedH U.vm) : va_Pc av (zAt G w) av.toArray U := ⟨rfl, zAt_end hc hh ht hW⟩
theorem zw_after {G : zG} {M : zMt} {Q Q' : Option Value → zWd → Prop} {pc : Nat} {lv : List (Option Value)} {st0 rest : List Value} {p : Program} {l : Launch} {e : Env} {s : State} {m : MethodId} {args a : Array Value} {below : List Frame} {meth : Method} {c : Code} {H : Heap} {locs : List Loc} {ls : Array Slot} {w : zWd}
    (hc : zCx G M p s m args meth c) (hl : zl ls (zm_nL M) lv) (hh : zH G w s H locs) (hr : va_Run p l e (zm_rm M) s m args below meth c H locs 0 0 0 0 (F0 m pc ls st0) rest (zQ G Q' a) (zgA G))
    (kk : ∀ r w', Q' r w' → zW G M Q (pc + 3) lv (r.toList ++ rest) w') : W p l e (zm_rm M) s m args below meth c H locs 0 0 (MQ below (zQ G Q) args s 0 0 (zgA G)) (F0 m pc ls st0) := by
  intro T hT X
  obtain ⟨v, st₀, t, T', L, h0, X', hL, e1, e2, ⟨⟨r, w', hv, hq, hP, hK, hD, hN, hZ⟩, hz, hk⟩, st⟩ := hr T hT X
  cases hv
  rw [h0] at hz hk
  have hS : va_S (zgA G) s.heap T'.heap (locs ++ L) := ⟨Nat.le_trans hh.2.2.1 (by rw [e1]; exact hz), fun q h1 h2 => by rw [e1, hk q (Nat.lt_of_lt_of_le h1 hh.2.2.1) h2]; exact hh.2.2.2.1 q h1 h2, fun q hq => by
      rcases List.mem_append.mp hq with h | h
      · exact hh.2.2.2.2 q h
      · exact hL q h⟩
  obtain ⟨t2, a1, b1⟩ := kk v w' hq p l e s m args below meth c T'.heap (locs ++ L) ls hc hl ⟨by rw [e1]; exact hP, hD, hS⟩ T' rfl X'
  exact ⟨t2, st t2 a1, b1⟩
theorem zw_callV {G : zG} {M M' : zMt} {Q Q' : Option Value → zWd → Prop} {pc : Nat} {lv : List (Option Value)} {st rest : List Value} {S : zSh} {σ τ : zSt} {idx b ci n : Nat} {C : String} {T : u_T} {N : Nat} (As : List Value) (hd : decode (zm_cc M) pc = .ok (.invokevirtual idx, 3)) (hM : zm_V M') (hlk : zml (zm_y M).cls idx M')
    (hR : zm_fr M' + 1 ≤ zm_fr M ∧ 8 + (zm_nL M' + 11) + zm_lw M' ≤ zm_lw M) (hn : As.length = zm_n M') (hst : st = As.reverse ++ .ref b :: rest) (hw : (rest.map fun v => v.category).sum ≤ 8) (h12 : ci < 12) (hcl : vwCl[ci]? = some ((zm_y M').cls, T, N)) (ho : zo S b ci n)
    (hC : zC G M' (.ref b :: As) (S, σ, τ) Q') (kk : ∀ r w', Q' r w' → zW G M Q (pc + 3) lv (r.toList ++ rest) w') : zW G M Q pc lv st (S, σ, τ) := by
  intro p l e s m args below meth c H locs ls hc hl hh
  obtain ⟨q0, hq0⟩ := z_at (G := G) (σ := σ) (τ := τ) ho
  rw [z_cell_o ho h12] at hq0
  have hrecv := va_recv hc.2.2.2.2.2.2.2.1 hh.1 (ci := ci) (q0 := q0) hcl hq0
  have hfix : CallFix p m c (zm_cc M) (zm_nL M) s args (zm_ws M) (zm_y M).cls := ⟨hc.1, hc.2.1, hc.2.2.1, hc.2.2.2.2.2.2.1, hc.2.2.2.2.2.1⟩
  have hpre : PreV s H (zm_y M').cls b (va_Pc (.ref b :: As) (zAt G (S, σ, τ))) As := ⟨zblind, hrecv, fun U hU hW => zAt_pre hc hh hU hW⟩
  have hts := hc.2.2.2.2.2.1
  have tb : ∀ w ∈ zt_tbl, w.before args s = true := fun w hw => hts w (List.mem_cons_of_mem _ hw)
  rcases hlk with h | ⟨host, h⟩
  · have cw : CallW (zm_rm M) s args (zm_y M).cls (zm_y M').cls idx (zm_y M') (zm_cc M') (zm_nL M') (zm_ret M') (zm_ws M') (zm_rm M') 0 0 (zm_n M') :=
      ⟨callB_of (zm_n M') hts (zg_in hM.1) rfl rfl rfl (tb _ hM.1.2.1) (tb _ h) hM.1.2.2 hR, tb _ hM.2.1, tb _ hM.2.2⟩
    exact zw_after hc hl hh (va_runV (As := As) hfix (hC l) cw hpre rfl hn hl.size hst (lv_room hw) hd ⟨Nat.le_refl _, Nat.le_refl _⟩) kk
  · have cw := va_cnB (R := zm_rm M) (own := (zm_y M).cls) (index := idx) (zm_n M') hts (zg_in (M := M) hM.1) rfl (rm := zm_rm M') (mc := 0) (ms := 0) rfl rfl (hc.2.2.2.2.2.2.2.2.1 _ h) (tb _ hM.1.2.1) hM.1.2.2 hR
    exact zw_after hc hl hh (va_runVN (As := As) hfix (hC l) ⟨cw, tb _ hM.2.1, tb _ hM.2.2⟩ hpre rfl hn hl.size hst (lv_room hw) hd ⟨Nat.le_refl _, Nat.le_refl _⟩) kk
theorem zw_callS {G : zG} {M M' : zMt} {Q Q' : Option Value → zWd → Prop} {pc : Nat} {lv : List (Option Value)} {st rest : List Value} {S : zSh} {σ τ : zSt} {idx : Nat} (As : List Value) (hd : decode (zm_cc M) pc = .ok (.invokestatic idx, 3)) (hM : zm_S M') (hlk : zml (zm_y M).cls idx M')
    (hR : zm_fr M' + 1 ≤ zm_fr M ∧ 8 + (zm_nL M' + 11) + zm_lw M' ≤ zm_lw M) (hn : As.length = zm_n M') (hst : st = As.reverse ++ rest) (hw : (rest.map fun v => v.category).sum ≤ 8)
    (hC : zC G M' As (S, σ, τ) Q') (kk : ∀ r w', Q' r w' → zW G M Q (pc + 3) lv (r.toList ++ rest) w') : zW G M Q pc lv st (S, σ, τ) := by
  intro p l e s m args below meth c H locs ls hc hl hh
  have hfix : CallFix p m c (zm_cc M) (zm_nL M) s args (zm_ws M) (zm_y M).cls := ⟨hc.1, hc.2.1, hc.2.2.1, hc.2.2.2.2.2.2.1, hc.2.2.2.2.2.1⟩
  have hpre : PreS s H (va_Pc As (zAt G (S, σ, τ))) As := ⟨zblind, fun U hU hW => zAt_pre hc hh hU hW⟩
  have hts := hc.2.2.2.2.2.1
  have tb : ∀ w ∈ zt_tbl, w.before args s = true := fun w hw => hts w (List.mem_cons_of_mem _ hw)
  rcases hlk with h | ⟨host, h⟩
  · have cw : CallB (zm_rm M) s args (zm_y M).cls idx (zm_y M') (zm_cc M') (zm_nL M') (zm_ret M') (zm_ws M') (zm_rm M') 0 0 (zm_n M') ∧ (Cond.static (zm_y M')).before args s = true :=
      ⟨callB_of (zm_n M') hts (zg_in hM.1) rfl rfl rfl (tb _ hM.1.2.1) (tb _ h) hM.1.2.2 hR, tb _ hM.2⟩
    exact zw_after hc hl hh (va_runS (As := As) hfix (hC l) cw hpre rfl hn hl.size hst (lv_room hw) hd ⟨Nat.le_refl _, Nat.le_refl _⟩) kk
  · have cw := va_cnB (R := zm_rm M) (own := (zm_y M).cls) (index := idx) (zm_n M') hts (zg_in (M := M) hM.1) rfl (rm := zm_rm M') (mc := 0) (ms := 0) rfl rfl (hc.2.2.2.2.2.2.2.2.1 _ h) (tb _ hM.1.2.1) hM.1.2.2 hR
    exact zw_after hc hl hh (va_runSN (As := As) hfix (hC l) ⟨cw, tb _ hM.2, trivial⟩ hpre rfl hn hl.size hst (lv_room hw) hd ⟨Nat.le_refl _, Nat.le_refl _⟩) kk
