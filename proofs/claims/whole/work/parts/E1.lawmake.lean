/-! ===== the law makes its three things ===== -/
/-- P: what is known of other cells, all of them below D0; w: what is being made, from D0 on -/
def lK (G : zG) (B : Nat) (P : Heap → Prop) (w : zWd) (h n k : Nat) : gH := fun s H locs cells slots => P H ∧ va_P (zgD G) vwCl (z_ws G w) H ∧ va_S (fun q => B ≤ q) s.heap H locs ∧ H.size = h ∧ cells = n ∧ slots = k ∧ B + n = h
abbrev lGd (G : zG) (D0 : Nat) : zG := (G.1, G.2.1, (fun q => D0 ≤ q), G.2.2.2)
section LM
variable {G : zG} {B b L : Nat} {xs : Nat → Int32} {pc : Nat} {lv : List (Option Value)} {st : List Value} {P : Heap → Prop} {S : zSh} {σ τ : zSt} {h n k : Nat}
theorem lpush {s : State} {H H1 : Heap} {locs : List Loc} {h1 : Nat} (hP : va_P (zgD G) vwCl (z_ws G (S, σ, τ)) H) (hS : va_S (fun q => B ≤ q) s.heap H locs) (hsz : H.size = h1) (z1 : H1.size = h1 + 1) (o1 : ∀ q, q < h1 → H1[q]? = H[q]?) (hat : va_at (zgD G) vwCl (h1, z_cell G (S, σ, τ) h1) H1) : va_P (zgD G) vwCl (z_ws G ((S.1 ++ [h1], S.2.1, S.2.2), σ, τ)) H1 ∧ va_S (fun q => B ≤ q) s.heap H1 locs := by
  subst hsz
  have e : z_ws G ((S.1 ++ [H.size], S.2.1, S.2.2), σ, τ) = z_ws G (S, σ, τ) ++ [(H.size, z_cell G (S, σ, τ) H.size)] := by
    show va_pl (S.1 ++ [H.size]) (z_cell G (S, σ, τ)) = va_pl S.1 (z_cell G (S, σ, τ)) ++ [(H.size, z_cell G (S, σ, τ) H.size)]
    simp [va_pl]
  have hk : ∀ (k : Nat) (x : Nat × va_E), (z_ws G (S, σ, τ))[k]? = some x → H1[x.1]? = H[x.1]? := fun k x hx => o1 x.1 ((hP k x hx).lt)
  refine ⟨?_, ⟨Nat.le_trans hS.1 (by omega), fun x h1 h2 => (o1 x (Nat.lt_of_lt_of_le h1 hS.1)).trans (hS.2.1 x h1 h2), hS.2.2⟩⟩
  rw [e]
  refine (hP.kept hk).app (fun k x hx => ?_)
  have hz : k < 1 := (List.getElem?_eq_some_iff.mp hx).1
  rw [show k = 0 by omega] at hx
  cases hx
  exact hat
theorem l_new {idx ci N n0 : Nat} (q : Nat) (hq : pc + 3 = q) (hd : decode code pc = .ok (.new idx, 3)) (hk : zknew RL idx ci N) (h12 : ci < 12) (hS : S.2.1 h = (ci, n0)) (hρ : S.2.2 h = fun _ => none) (hσ : σ h = fun _ => 0) (hτ : τ h = fun _ => 0) (hm : n + 1 ≤ 601024 ∧ k + N ≤ 7293034) (hPk : ∀ H H1 : Heap, H.size = h → (∀ q, q < h → H1[q]? = H[q]?) → P H → P H1) (kk : gV (lX G B b L xs) (lK G B P ((S.1 ++ [h], S.2.1, S.2.2), σ, τ) (h + 1) (n + 1) (k + N)) q lv (.ref h :: st)) : gV (lX G B b L xs) (lK G B P (S, σ, τ) h n k) pc lv st := by
  subst hq
  intro p l e s m args below meth c H locs ls cells slots hc hl hh
  have hc0 := hc
  obtain ⟨hx, hb, rfl, hAt, hfl, hK, hN, hZ, hAO, hA, hB⟩ := hc
  obtain ⟨hP0, hP, hS0, hsz, rfl, rfl, hs0⟩ := hh
  obtain ⟨-, -, hr, hml, hown, hts, hX, hbl, hlocks, hgv⟩ := id hAt
  have tb : ∀ w ∈ zt_tbl, w.before #[Value.ref b] s = true := fun w hw => hts w (List.mem_filter.mp hw).1
  obtain ⟨C, T, ty, hcl, hin2, hty, h4, h5, h6, hdf⟩ := hk
  have hKn := hK.1 ci _ hcl
  refine W.newcK hx hb hown (tb _ h4) (tb _ h5) (tb _ h6) rfl hd hm.1 hm.2 hKn.2.1 hsz fun H1 kC hkC e1 z1 o1 => ?_
  have hcell : z_cell G (S, σ, τ) h = .inr (ci, z_fs (fun _ => 0) (fun _ => 0) (fun _ => none) 0 (zk_f ci)) := by simp [z_cell, hS, h12, hρ, hσ, hτ]
  obtain ⟨g1, g2⟩ := lpush hP hS0 hsz z1 o1 (by rw [hcell]; exact ⟨_, hcl, (u_born ty tb hin2 hKn hkC e1 hty).to hdf⟩)
  exact kk p l e s m _ below meth c H1 locs ls _ _ hc0 hl ⟨hPk H H1 hsz o1 hP0, g1, g2, z1, rfl, rfl, by omega⟩
theorem l_icall {M' : zMt} {idx b' mc' ms' D0 : Nat} {w w1 : zWd} (q : Nat) (hq : pc + 3 = q) (hd : decode code pc = .ok (.invokespecial idx, 3)) (hI : zm_I M') (hlk : Cond.methodLink RL idx (zm_y M') ∈ zt_tbl) (hR : zm_fr M' + 1 ≤ 10 ∧ 8 + (zm_nL M' + 11) + zm_lw M' ≤ 346) (hw : (st.map fun v => v.category).sum ≤ 8) (hm : n + mc' ≤ 601024 ∧ k + ms' ≤ 7293034) (hD0 : B ≤ D0) (hDw : va_D (fun q => D0 ≤ q) (z_ws G w)) (hPk : ∀ H H1 : Heap, H.size = h → (∀ q, q < H.size → q < D0 → H1[q]? = H[q]?) → P H → P H1) (hC : kC (lGd G D0) M' [.ref b'] w h w1 mc' ms') (kk : gV (lX G B b L xs) (lK G B P w1 (h + mc') (n + mc') (k + ms')) q lv st) : gV (lX G B b L xs) (lK G B P w h n k) pc lv (.ref b' :: st) := by
  subst hq
  intro p l e s m args below meth c H locs ls cells slots hc hl hh
  have hc0 := hc
  obtain ⟨hx, hb, rfl, hAt, hfl, hK, hN, hZ, hAO, hA, hB⟩ := hc
  obtain ⟨hP0, hP, hS, hsz, rfl, rfl, hs0⟩ := hh
  obtain ⟨-, -, hr, hml, hown, hts, hX, hbl, hlocks, hgv⟩ := id hAt
  have tb : ∀ w ∈ zt_tbl, w.before #[Value.ref b] s = true := fun w hw => hts w (List.mem_filter.mp hw).1
  obtain ⟨hB2, hin2, hnm, hret, hn0⟩ := hI
  have hfix : CallFix p m c code 7 s #[Value.ref b] lw_tbl RL := ⟨hx, hb, hml, hown, hts⟩
  have hpre : PreS s H (va_Pc [.ref b'] (kAt (lGd G D0) w h)) [.ref b'] := ⟨kblind, fun U hU hW => ⟨rfl, ⟨by rw [hU]; exact hP, hK.moved hW.alike, hDw, fun n hn => zn_warm hn hW (hN n hn), by
    rw [hU]
    have h9 : zSta G s H := hZ.kept (fun a h1 h2 => hS.2.1 a h1 (by rw [hA] at h2; exact h2))
    exact (h9.moved hW.alike).narrow (fun q hq => by rw [hA]; show B ≤ q; exact Nat.le_trans hD0 hq)⟩, by rw [hU]; exact hsz, hAO.moved hW.alike⟩⟩
  have cw : CallB room_1 s #[Value.ref b] RL idx (zm_y M') (zm_cc M') (zm_nL M') none (zm_ws M') (zm_rk M' mc' ms') mc' ms' (zm_n M') ∧ (zm_y M').name = "<init>" ∧ (Cond.instanceMethod (zm_y M')).before #[Value.ref b] s = true :=
    ⟨callB_of (zm_n M') hts (zg_law hB2) (by rw [← hret]; rfl) rfl rfl (tb _ hB2.2.1) (tb _ hlk) hB2.2.2 hR, hnm, tb _ hin2⟩
  intro T0 hT X0
  obtain ⟨v, st₀, t, T', L0, h0, X', hL, e1, e2, ⟨⟨hv, ⟨hP', hK', hD', hN', hZ'⟩, ht, hAO2⟩, hz2, hk2⟩, stp⟩ := va_runI (As := []) (rest := st) hfix (hC l) cw hpre rfl hn0.symm hl.size rfl (lv_room hw) hd hm T0 hT X0
  cases hv
  rw [h0] at hz2 hk2
  have hS' : va_S (fun q => B ≤ q) s.heap T'.heap (locs ++ L0) := ⟨Nat.le_trans hS.1 (by rw [e1]; exact hz2), fun q h1 h2 => by rw [e1, hk2 q (Nat.lt_of_lt_of_le h1 hS.1) (fun h => h2 (Nat.le_trans hD0 h))]; exact hS.2.1 q h1 h2, fun q hq => by
    rcases List.mem_append.mp hq with h | h
    · exact hS.2.2 q h
    · exact Nat.le_trans hD0 (hL q h)⟩
  obtain ⟨t2, a1, b1⟩ := kk p l e s m _ below meth c T'.heap (locs ++ L0) ls _ _ hc0 hl ⟨hPk H T'.heap hsz (fun q h1 h2 => by rw [e1]; exact hk2 q h1 (fun h => Nat.not_le.mpr h2 h)) hP0, by rw [e1]; exact hP', hS', by rw [e1]; exact ht, rfl, rfl, by omega⟩ T' rfl X'
  exact ⟨t2, stp t2 a1, b1⟩
/-- the world that was made is the one that the methods know -/
theorem kS_end (G : zG) (B : Nat) : z_ws G (kS B 86 85, z0, z0) = z_ws G (zxS B, z0, z0) := by
  have e : zkR 85 = zx_r := by decide +kernel
  show va_pl (List.range' B 86) _ = va_pl (List.range' B 86) _
  refine List.map_congr_left fun a ha => ?_
  have hb : ¬ a < B := by rw [List.mem_range'_1] at ha; omega
  simp only [z_cell, kS, zxS, hb, if_false, e]
  rfl
theorem kM_end (G : zG) (C : Nat) (σ τ : zSt) : z_ws G (kM C 24 23, σ, τ) = z_ws G (zmS C, σ, τ) := rfl
theorem nw_L_8 : zknew RL 8 10 18 := ⟨RX10, TX10, tyX10, rfl, zcX10.2.1, tyX10_ok, zt_t 21 (by decide +kernel) rfl, zt_t 22 (by decide +kernel) rfl, zt_t 1 (by decide +kernel) rfl, df_X10⟩
theorem nw_L_16 : zknew RL 16 11 47 := ⟨RX11, TX11, tyX11, rfl, zcX11.2.1, tyX11_ok, zt_t 1058 (by decide +kernel) rfl, zt_t 1059 (by decide +kernel) rfl, zt_t 12 (by decide +kernel) rfl, df_X11⟩
theorem mi_L_15 : Cond.methodLink RL 15 (zm_y M_X10_init) ∈ zt_tbl := zt_t 23 (by decide +kernel) rfl
theorem mi_L_18 : Cond.methodLink RL 18 (zm_y M_X11_init) ∈ zt_tbl := zt_t 1060 (by decide +kernel) rfl
theorem l_out (q : Nat) (hq : pc + 2 = q) (hd : decode code pc = .ok (.newarray .long, 2)) (hP1 : ∀ H : Heap, P H → va_P (zgD G) vwCl (z_ws G (zxS B, z0, z0)) H) (hm : n + 1 ≤ 601024 ∧ k + 1 ≤ 7293034) (hh1 : h = B + 110) (kk : gV (lX G B b L xs) (lH G B z0 z0 (zu z0 (B + 86) 2 (-1)) z0 0 (n + 1) (k + 1)) q lv (.ref (B + 110) :: st)) : gV (lX G B b L xs) (lK G B P (zmS (B + 86), zu z0 (B + 86) 2 (-1), z0) h n k) pc lv (vi 1 :: st) := by
  subst hq
  subst hh1
  intro p l e s m args below meth c H locs ls cells slots hc hl hh
  have hc0 := hc
  obtain ⟨hx, hb, rfl, hAt, hfl, hK, hN, hZ, hAO, hA, hB⟩ := hc
  obtain ⟨hP0, hP, hS, hsz, rfl, rfl, hs0⟩ := hh
  obtain ⟨-, -, hr, hml, hown, hts, hX, hbl, hlocks, hgv⟩ := id hAt
  have tb : ∀ w ∈ zt_tbl, w.before #[Value.ref b] s = true := fun w hw => hts w (List.mem_filter.mp hw).1
  refine va_newaK (atype := .long) (N := 1) hx hb (tb _ zac_l) rfl hd rfl (by decide) rfl (by decide) hm.1 hm.2 hsz fun H1 cA e1 z1 o1 hAr hNm => ?_
  have hcA : cA = G.2.1.2.1 := Option.some.inj (hNm.symm.trans (hK.2 1 _ rfl).2)
  have hkp : ∀ {w : zWd}, va_P (zgD G) vwCl (z_ws G w) H → va_P (zgD G) vwCl (z_ws G w) H1 := fun {w} hw k x hx => (hw k x hx).kept (o1 x.1 (by rw [← hsz]; exact (hw k x hx).lt))
  refine kk p l e s m _ below meth c H1 locs ls _ _ hc0 hl ⟨hkp (hP1 H hP0), hkp hP, ?_, ⟨Nat.le_trans hS.1 (by omega), fun x h1 h2 => (o1 x (by have := hS.1; omega)).trans (hS.2.1 x h1 h2), hS.2.2⟩, Nat.le_refl _, Nat.le_refl _, hm.1, hm.2⟩
  rw [e1, hcA]
  rfl
theorem gv_drop {X : gX} {Hh : gH} (i : Nat) (k : gV X Hh pc (lv.set i none) st) : gV X Hh pc lv st := by
  intro p l e s m args below meth c H locs ls cells slots hc hl hh
  refine k p l e s m args below meth c H locs ls cells slots hc ?_ hh
  obtain ⟨l0, h1, h2⟩ := hl
  refine ⟨l0, h1, fun j v hj => h2 j v ?_⟩
  by_cases hji : j = i
  · subst hji
    rw [List.getElem?_set] at hj
    simp only [if_true] at hj
    split at hj <;> simp at hj
  · rw [List.getElem?_set_ne (Ne.symm hji)] at hj
    exact hj
theorem l_more {σ2 τ2 : zSt} {u : Int} {cb sb cb' sb' : Nat} (h1 : cb ≤ cb') (h2 : sb ≤ sb') (h3 : cb' ≤ 601024) (h4 : sb' ≤ 7293034) (kk : gV (lX G B b L xs) (lH G B σ τ σ2 τ2 u cb' sb') pc lv st) : gV (lX G B b L xs) (lH G B σ τ σ2 τ2 u cb sb) pc lv st := by
  intro p l e s m args below meth c H locs ls cells slots hc hl hh
  obtain ⟨a1, a2, a3, a4, a5, a6, a7, a8⟩ := hh
  exact kk p l e s m args below meth c H locs ls cells slots hc hl ⟨a1, a2, a3, a4, Nat.le_trans a5 h1, Nat.le_trans a6 h2, h3, h4⟩
theorem l_ret {σ2 τ2 : zSt} {u : Int} {cb sb : Nat} (hd : decode code pc = .ok (.ireturn, 1)) : gV (lX G B b L xs) (lH G B σ τ σ2 τ2 u cb sb) pc lv [vi 1] := by
  intro p l e s m args below meth c H locs ls cells slots hc hl hh
  obtain ⟨hx, hb, rfl, hAt, hfl, hK, hN, hZ, hAO, hA, hB⟩ := hc
  obtain ⟨a1, a2, a3, a4, a5, a6, a7, a8⟩ := hh
  obtain ⟨-, -, hr, hml, hown, hts, hX, hbl, hlocks, hgv⟩ := id hAt
  refine va_forget (fun q hq => by rw [hB]; exact a4.2.2 q hq) ?_
  refine W.widen (k := 601024) (n := 7293034) (by omega) (by omega) ?_
  exact lw_ret hx hb hr hlocks hd
end LM
