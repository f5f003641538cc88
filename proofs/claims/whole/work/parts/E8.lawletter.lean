/-! ===== letter's case ===== -/
theorem lk_xS {s : State} {b : Nat} (hts : ∀ w ∈ lw_tbl, w.before #[Value.ref b] s = true) (hgv : (Jvm.Cond.and given_1 narrow_1).before #[Value.ref b] s = true) : ∃ sa : Nat, xS (fun q => s.heap.size ≤ q) sa s s.heap := by
  have hs := flat_of_before _ hgv
  have hA : ∀ a : Nat, a < s.heap.size → ¬ (fun q => s.heap.size ≤ q) a := fun a h => Nat.not_le.mpr h
  have tt : ∀ w ∈ tables_1, w.before #[Value.ref b] s = true := fun w hw => hts w (List.mem_append_right _ hw)
  obtain ⟨sa, -, -, -, e1, -⟩ := Cond.exactly_spec (hs (Cond.exactly (.string "ShadeGrid" 396) "java/lang/String") (by decide +kernel))
  refine ⟨sa, vx_Zqof (tt _ (List.mem_of_getElem? (i := 1015) (by decide +kernel))) (tt _ (List.mem_of_getElem? (i := 17) (by decide +kernel))) (hs _ (by decide +kernel)) hA, vx_Zqof (tt _ (List.mem_of_getElem? (i := 1017) (by decide +kernel))) (tt _ (List.mem_of_getElem? (i := 17) (by decide +kernel))) (hs _ (by decide +kernel)) hA, vk_R.of (tt _ (List.mem_of_getElem? (i := 1027) (by decide +kernel))) e1, fun w hw => va_Nw.of (xnb_on hw) (tt w (xnb_in w hw))⟩
theorem hk_l : Cond.methodLink RL 210 yL_letter ∈ zt_tbl := zt_t 979 (by decide +kernel) rfl
theorem hk_s : Cond.static yL_letter ∈ zt_tbl := zt_t 980 (by decide +kernel) rfl
theorem hk_i : Cond.initialized RL ∈ zt_tbl := zt_t 0 (by decide +kernel) rfl
theorem hk_good : GoodIn lw_tbl (va_wsS RL 210 yL_letter hws) := by
  have key : ∀ w ∈ va_wsS RL 210 yL_letter hws, w ∈ zt_tbl := by
    intro w hw
    rcases List.mem_append.mp hw with h | h
    · simp only [List.mem_cons, List.not_mem_nil, or_false] at h
      rcases h with rfl | rfl | rfl
      · exact hk_l
      · exact hk_s
      · exact hk_i
    · rcases List.mem_cons.mp h with rfl | h
      · exact hw_c
      · exact h
  exact fun w hw => ⟨(List.mem_filter.mp (key w hw)).1, good_of_word (List.mem_filter.mp (key w hw)).2⟩
section L5
variable {G : zG} {B b L : Nat} {xs : Nat → Int32} {σ τ σ2 τ2 : zSt} {u : Int} {cb sb : Nat} {pc : Nat} {lv : List (Option Value)} {st : List Value}
theorem l_help {A : zA} {p0 k0 : Int} (q : Nat) (hq : pc + 3 = q) (hd : decode code pc = .ok (.invokestatic 210, 3)) (hx : zxR B σ τ A) (hp : -2147483648 ≤ p0 ∧ p0 ≤ 2147483647) (hk : -2147483648 ≤ k0 ∧ k0 ≤ 2147483647) (hw : (st.map fun v => v.category).sum ≤ 8) (hcb : cb + 1 ≤ 601024) (hsb : sb + 6 ≤ 7293034)
    (kk : ∀ r u' : Int, (aHasL A p0 k0 ∧ r = 0 ∧ u' = aLet A p0 k0) ∨ (¬ aHasL A p0 k0 ∧ r = 1 ∧ u' = u) → gV (lX G B b L xs) (lH G B σ τ σ2 τ2 u' (cb + 1) (sb + 6)) q lv (vi r :: st)) : gV (lX G B b L xs) (lH G B σ τ σ2 τ2 u cb sb) pc lv (.ref (B + 110) :: vi k0 :: vi p0 :: .ref B :: st) := by
  subst hq
  intro p l e s m args below meth c H locs ls cells slots hc hl hh
  have hc0 := hc
  obtain ⟨hxx, hb, rfl, hAt, hfl, hK, hN, hZ, hAO, hA9, hB⟩ := hc
  obtain ⟨hP1, hP2, hO1, hS, h1, h2, h3, h4⟩ := hh
  obtain ⟨-, -, hr, hml, hown, hts, hX, hbl, hlocks, hgv⟩ := id hAt
  have tb : ∀ w ∈ zt_tbl, w.before #[Value.ref b] s = true := fun w hw => hts w (List.mem_filter.mp hw).1
  obtain ⟨sa, hxS⟩ := lk_xS hts hgv
  rw [hB] at hxS
  have hl9 : l.stackTraces = false := by unfold Launch.stackTraces; rw [hfl]; decide
  have hfix : CallFix p m c code 7 s #[Value.ref b] lw_tbl RL := ⟨hxx, hb, hml, hown, hts⟩
  have hD : va_D (zgA (lGx G B)) (z_ws (lGx G B) (zxS B, σ, τ)) := zD_rng (fun q h1 h2 => ⟨h1, h2⟩)
  have hkp : ∀ a : Nat, a < s.heap.size → ¬ B ≤ a → H[a]? = s.heap[a]? := hS.2.1
  have hpre : PreS s H (va_Pc [.ref B, vi p0, vi k0, .ref (B + 110)] (hP G B sa σ τ u)) [.ref B, vi p0, vi k0, .ref (B + 110)] := ⟨hblind, fun U hU hW => ⟨rfl, ⟨by rw [hU]; exact hP1, hK.moved hW.alike, hD, fun n hn => zn_warm hn hW (hN n hn), by
    rw [hU]
    have h9 : zSta G s H := hZ.kept (fun a h1 h2 => hS.2.1 a h1 (by rw [hA9] at h2; exact h2))
    exact (h9.moved hW.alike).narrow (fun q hq => by rw [hA9]; exact hq.1)⟩, by
    rw [hU]
    exact ((hxS.kept hkp).warm hW).narrow (fun q hq => by rcases hq with h9 | h9 <;> omega), by rw [hU]; exact hO1⟩⟩
  have cw : vx_CSW room_1 s #[Value.ref b] RL 210 yL_letter cL_letter 5 (some .int) [(0, 10, 13, 13)] hws hrm 1 6 4 := vx_cwSW 4 hts hk_good rfl rfl rfl (by decide +kernel) ⟨Nat.le_of_ble_eq_true rfl, Nat.le_of_ble_eq_true rfl⟩
  intro T0 hT X0
  obtain ⟨v, st₀, t, T', L0, h0, X', hL, e1, e2, ⟨r, u', hv, hor, hP', hO', hz, hk2⟩, stp⟩ := vx_runSW (As := [.ref B, vi p0, vi k0, .ref (B + 110)]) (rest := st) hfix (H_letter (G := G) (sa := sa) (u := u) l hl9 hx hp hk) cw hpre rfl rfl hl.size rfl (lv_room hw) hd ⟨(show cells + 1 ≤ room_1.cells from (show cells + 1 ≤ 601024 by omega)), (show slots + 6 ≤ room_1.slots from (show slots + 6 ≤ 7293034 by omega))⟩ T0 hT X0
  cases hv
  rw [h0] at hz hk2
  have hS' : va_S (fun q => B ≤ q) s.heap T'.heap (locs ++ L0) := ⟨Nat.le_trans hS.1 (by rw [e1]; exact hz), fun q h1 h2 => by rw [e1, hk2 q (Nat.lt_of_lt_of_le h1 hS.1) (fun h9 => h2 (by rcases h9 with h9 | h9 <;> omega))]; exact hS.2.1 q h1 h2, fun q hq => by
    rcases List.mem_append.mp hq with h9 | h9
    · exact hS.2.2 q h9
    · show B ≤ q.base
      rcases hL q h9 with h8 | h8
      · exact h8.1
      · exact Nat.le_trans (Nat.le_add_right _ _) h8⟩
  have hk' : ∀ q : Nat, q < H.size → ¬ hA B q → T'.heap[q]? = H[q]? := fun q h1 h2 => by rw [e1]; exact hk2 q h1 h2
  obtain ⟨t2, a1, b1⟩ := kk r u' hor p l e s m #[Value.ref b] below meth c T'.heap (locs ++ L0) ls (cells + 1) (slots + 6) hc0 hl ⟨by rw [e1]; exact hP', l_frame (A := hA B) rfl hP2 (fun q h1 h2 h3 => by rcases h3 with h9 | h9 <;> omega) hk', by rw [e1]; exact hO', hS', by omega, by omega, hcb, hsb⟩ T' rfl X'
  exact ⟨t2, stp t2 a1, b1⟩
theorem l_oald (q : Nat) (hq : pc + 1 = q) (hd : decode code pc = .ok (.laload, 1)) (kk : gV (lX G B b L xs) (lH G B σ τ σ2 τ2 u cb sb) q lv (vl u :: st)) : gV (lX G B b L xs) (lH G B σ τ σ2 τ2 u cb sb) pc lv (vi 0 :: .ref (B + 110) :: st) := by
  subst hq
  intro p l e s m args below meth c H locs ls cells slots hc hl hh
  have kk := kk p l e s m args below meth c H locs ls cells slots hc hl hh
  obtain ⟨hxx, hb, rfl, hAt, hfl, hK, hN, hZ, hAO, hA, hB⟩ := hc
  have hP : va_P (zgD G) vwCl [(B + 110, .inl (G.2.1.2.1, 1, .inr (.inl (fun _ => zL u))))] H := by
    intro k x hx
    have hz : k < 1 := (List.getElem?_eq_some_iff.mp hx).1
    rw [show k = 0 by omega] at hx
    cases hx
    exact hh.2.2.1
  exact va_lald hxx hb hK hP 0 1 rfl rfl (zI_in (a := 0) (n := 1) (by omega) (by omega)) hd kk
theorem L_45 {A : zA} {i : Int} (hL : L ≤ 3584) (hi : 0 ≤ i ∧ i + 7 ≤ L) (hcb : cb + 1 ≤ 601024) (hsb : sb + 6 ≤ 7293034) (hx : zxR B σ τ A) (hm : zmR (B + 86) σ2 τ2 A) (hE : lEnd G B b L xs (cb + 1) (sb + 6) i) : gV (lX G B b L xs) (lH G B σ τ σ2 τ2 u cb sb) 2318 (lLv b B i) [] := by
  refine gv_aload_n 2319 rfl dL_law_2318 rfl ?_
  refine l_arg 2325 rfl dL_law_2319 dL_law_2320 dL_law_2322 dL_law_2323 dL_law_2324 rfl rfl (by omega) hL ?_
  refine l_arg 2331 rfl dL_law_2325 dL_law_2326 dL_law_2328 dL_law_2329 dL_law_2330 rfl rfl (by omega) hL ?_
  refine gv_aload_n 2332 rfl dL_law_2331 rfl ?_
  refine l_help 2335 rfl dL_law_2332 hx (i32_r _) (i32_r _) (Nat.le_of_ble_eq_true rfl) hcb hsb (fun r u' hor => ?_)
  refine gv_istore 2337 rfl dL_law_2335 (Nat.le_of_ble_eq_true rfl) rfl ?_
  refine gv_aload_n 2338 rfl dL_law_2337 rfl ?_
  refine l_arg 2344 rfl dL_law_2338 dL_law_2339 dL_law_2341 dL_law_2342 dL_law_2343 rfl rfl (by omega) hL ?_
  refine l_arg 2350 rfl dL_law_2344 dL_law_2345 dL_law_2347 dL_law_2348 dL_law_2349 rfl rfl (by omega) hL ?_
  refine l_callm [vi (xs (i + 1).toNat).toInt, vi (xs (i + 2).toNat).toInt] dL_law_2350 kL_215 rfl (Nat.le_of_ble_eq_true rfl) (Y_letter hm (i32_r _) (i32_r _)) (fun r2 w1 hq => ?_)
  obtain ⟨rfl, σ3, τ3, rfl, hm1, hth⟩ := hq
  refine ⟨σ3, τ3, rfl, ?_⟩
  refine gv_istore 2355 rfl dL_law_2353 (Nat.le_of_ble_eq_true rfl) rfl ?_
  refine gv_aload_n 2356 rfl dL_law_2355 rfl ?_
  refine l_callm [] dL_law_2356 kL_216 rfl (Nat.le_of_ble_eq_true rfl) Y_thrown (fun r3 w2 hq => ?_)
  obtain ⟨rfl, rfl⟩ := hq
  refine ⟨σ3, τ3, rfl, ?_⟩
  rw [hth]
  refine gv_iload 2361 rfl dL_law_2359 rfl ?_
  have fin : ∀ (r0 v0 : Int), gV (lX G B b L xs) (lH G B σ τ σ3 τ3 u' (cb + 1) (sb + 6)) 2412 [some (.ref b), some (.ref B), some (.ref (B + 86)), some (.ref (B + 110)), some (vi i), some (vi r0), some (vi v0)] [] := by
    intro r0 v0
    refine gv_drop 5 ?_
    refine gv_drop 6 ?_
    exact hE _ _ _ _ _ _ hx hm1
  rcases hor with ⟨hn, rfl, rfl⟩ | ⟨hn, rfl, rfl⟩
  · have hrg := aLet_r hx hn
    rw [if_pos hn, if_pos hn]
    refine gv_same 2366 dL_law_2361 rfl ?_
    refine gv_iload 2368 rfl dL_law_2366 rfl ?_
    refine gv_if_ne 2383 2371 rfl dL_law_2368 rfl (by decide) (fun h => absurd rfl h) (fun _ => ?_)
    refine gv_aload_n 2372 rfl dL_law_2371 rfl ?_
    refine gv_iconst 2373 rfl dL_law_2372 ?_
    refine l_oald 2374 rfl dL_law_2373 ?_
    refine gv_iload 2376 rfl dL_law_2374 rfl ?_
    refine gv_i2l 2377 rfl dL_law_2376 (by omega) ?_
    refine gv_samel 2378 rfl dL_law_2377 ?_
    refine gv_if_eq 2383 2381 rfl dL_law_2378 rfl (by decide) (fun _ => ?_) (fun h => absurd rfl h)
    refine gv_goto 2412 dL_law_2383 rfl ?_
    exact fin _ _
  · rw [if_neg hn, if_neg hn]
    refine gv_same 2366 dL_law_2361 rfl ?_
    refine gv_iload 2368 rfl dL_law_2366 rfl ?_
    refine gv_if_ne 2383 2371 rfl dL_law_2368 rfl (by decide) (fun _ => ?_) (fun h => absurd h (by decide))
    refine gv_goto 2412 dL_law_2383 rfl ?_
    exact fin _ _
end L5
/-- THE LAW, from its entry -/
theorem whole_start {p : Program} {e : Env} {s : State} {m : MethodId} {below : List Frame} {meth : Method} {c : Code} (l : Launch) (hflags : l.flags = flags0) {b L : Nat} {xs : Nat → Int32} (hL : L ≤ 3584) (C0 : lw_At p s m meth c b L xs) : W p l e room_1 s m #[Value.ref b] below meth c s.heap [] 0 0 (lw_Z below #[Value.ref b] s) (entryFrame m ([Value.ref b] : List Value).toArray 7) :=
  whole_0 l hflags hL C0 (fun G σ τ σ2 τ2 u cb sb i A hL hi hcb hsb hx hm hE => L_45 hL hi hcb hsb hx hm hE)
