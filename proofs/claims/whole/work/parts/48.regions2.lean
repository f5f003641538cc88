def xRM (B : Nat) (σ1 : zSt) (p : zPc) (s : zRm) (σs : zSt) : Prop := (∀ b, (b < B + 67 ∨ B + 70 < b) → σs b = σ1 b) ∧ (∀ x y, aIn p x y → σs (B + 68) (y * p.1 + x).toNat = s.1 x y) ∧ σs (B + 67) 4 = s.2
theorem c_findIn {G : zG} {B a : Nat} {σ1 τ : zSt} {p : zPc} {t : Int} (hp : zPic (zxS B) a (a + 1)) (h : xrPic σ1 a p) (h0 : 0 < p.1) (hn : B + 74 ≤ a ∧ a + 1 < B + 86) (ht : 0 ≤ t ∧ t ≤ 255) : zC G M_X6_findIn [.ref (B + 67), .ref a, vi t] (zxS B, σ1, τ) (fun r w => r = none ∧ ∃ σ' : zSt, w = (zxS B, σ', τ) ∧ xRM B σ1 p (rFind p t) σ') := by
  have hwh := h.wh h0
  have hcn := zz_wh (w := p.1) (h := p.2.1) (by omega) (by omega)
  refine zC_of 2 rfl (Nat.le_of_ble_eq_true rfl) ?_
  generalize hF : (fun (x y : Int) (s : zRm) => rStep p t x y s) = F
  have hF' : ∀ x y s, F x y s = rStep p t x y s := fun x y s => by rw [← hF]
  have hE : rFind p t = zfold (fun (j : Nat) => zfold (fun (i : Nat) => F (0 + i) (0 + j)) p.1.toNat) p.2.1.toNat (fun _ _ => -1, 0) := by subst hF; unfold rFind zwin; rw [Int.sub_zero, Int.sub_zero]
  rw [hE]
  generalize hO : (fun (j : Nat) => zfold (fun (i : Nat) => F (0 + i) (0 + j)) p.1.toNat) = O
  have hO' : ∀ j c, O j c = zfold (fun (i : Nat) => F (0 + i) (0 + j)) p.1.toNat c := fun j c => by rw [← hO]
  have outer : ∀ (fu j : Nat) (s : zRm) (σs : zSt), (j : Int) ≤ p.2.1 → p.2.1 - j < fu → s = zfold O j (fun _ _ => -1, 0) → rJ p (j * p.1.toNat) s → xRM B σ1 p s σs → zW G M_X6_findIn (fun r w => r = none ∧ ∃ σ' : zSt, w = (zxS B, σ', τ) ∧ xRM B σ1 p (zfold O p.2.1.toNat (fun _ _ => -1, 0)) σ') 15 [some (.ref (B + 67)), some (.ref a), some (vi t), some (vi j), none] [] (zxS B, σs, τ) := by
    intro fu
    induction fu with
    | zero => intro j s σs h1 h2; omega
    | succ fu ih =>
      intro j s σs h1 h2 hs hJ hm
      generalize hI : (fun (i : Nat) => F (0 + i) (0 + j)) = I
      have hI' : ∀ i c, I i c = rStep p t i j c := fun i c => by rw [← hI]; show F (0 + (i : Int)) (0 + (j : Int)) c = _; rw [Int.zero_add, Int.zero_add, hF']
      have inner : ∀ (fm i : Nat) (s' : zRm) (σs : zSt), (j : Int) < p.2.1 → (i : Int) ≤ p.1 → p.1 - i < fm → s' = zfold I i s → rJ p (j * p.1.toNat + i) s' → xRM B σ1 p s' σs → zW G M_X6_findIn (fun r w => r = none ∧ ∃ σ' : zSt, w = (zxS B, σ', τ) ∧ xRM B σ1 p (zfold O p.2.1.toNat (fun _ _ => -1, 0)) σ') 26 [some (.ref (B + 67)), some (.ref a), some (vi t), some (vi j), some (vi i)] [] (zxS B, σs, τ) := by
        intro fm
        induction fm with
        | zero => intro i s' σs h3 h4 h5; omega
        | succ fm ihm =>
          intro i s' σs h3 h4 h5 hs' hJ' hm'
          have hpS : xrPic σs a p := h.c (hm'.1 _ (by omega)) (hm'.1 _ (by omega))
          have hw1 := (hpS.wh h0).1
          have L70 : (i : Int) < p.1 → ∀ σs, xRM B σ1 p (rStep p t i j s') σs → zW G M_X6_findIn (fun r w => r = none ∧ ∃ σ' : zSt, w = (zxS B, σ', τ) ∧ xRM B σ1 p (zfold O p.2.1.toNat (fun _ _ => -1, 0)) σ') 70 [some (.ref (B + 67)), some (.ref a), some (vi t), some (vi j), some (vi i)] [] (zxS B, σs, τ) := by
            intro hi σs hm
            have hlt : j * p.1.toNat + i < 192 := by
              have := zz_ix (x := i) (y := j) (w := p.1) (h := p.2.1) (by omega) (by omega) (by omega) (by omega)
              have e : ((j * p.1.toNat + i : Nat) : Int) = (j : Int) * p.1 + i := by simp; rw [show max p.1 0 = p.1 by omega]
              omega
            refine zw_iinc 73 rfl dX6_findIn_70 (Nat.le_of_ble_eq_true rfl) rfl rfl ?_
            refine zw_goto 26 dX6_findIn_73 (by decide) ?_
            exact ihm (i + 1) _ _ h3 (by omega) (by omega) (by simp only [zfold]; rw [hI', ← hs']) (hJ'.step hlt) hm
          refine zw_iload 28 rfl dX6_findIn_26 rfl ?_
          refine zw_aload_n 29 rfl dX6_findIn_28 rfl ?_
          refine zw_geti 32 rfl dX6_findIn_29 fl_X6_36 hp.1 ?_
          rw [hw1.1]
          refine zw_icmp_ge 76 35 rfl dX6_findIn_32 (by decide) (by omega) (by omega) (fun h_32 => ?_) (fun h_32 => ?_)
          · refine zw_iinc 79 rfl dX6_findIn_76 (Nat.le_of_ble_eq_true rfl) rfl rfl ?_
            refine zw_goto 15 dX6_findIn_79 (by decide) ?_
            refine zw_drop 4 ?_
            have e : zfold O (j + 1) (fun _ _ => -1, 0) = s' := by simp only [zfold]; rw [← hs, hO', hI, hs', show p.1.toNat = i by omega]
            exact ih (j + 1) s' _ (by omega) (by omega) e.symm (by rw [Nat.succ_mul, show p.1.toNat = i by omega]; rw [show p.1.toNat = i by omega] at hJ'; exact hJ') hm'
          · have hin : aIn p i j := by omega
            have i1 := zz_ix hin.1 hin.2 hwh.2.1.2 hwh.2.2.2
            have hJb := hJ'.1
            have hjb : (j : Nat) * p.1.toNat + i ≤ 192 := by
              have e : ((j * p.1.toNat + i : Nat) : Int) = (j : Int) * p.1 + i := by simp; rw [show max p.1 0 = p.1 by omega]
              omega
            refine zw_aload_n 36 rfl dX6_findIn_35 rfl ?_
            refine zw_getr 39 rfl dX6_findIn_36 fl_X6_9 (by first | assumption | exact zx_o0 | exact zx_o _ _ _ rfl) (by first | assumption | exact zx_f0 _ _ rfl | exact zx_f _ _ _ rfl) ?_
            refine zw_aload_n 40 rfl dX6_findIn_39 rfl ?_
            refine zw_iload 42 rfl dX6_findIn_40 rfl ?_
            refine zw_iload_n 43 rfl dX6_findIn_42 rfl ?_
            refine zw_cVi2 46 rfl dX6_findIn_43 kX6_findIn_39 (Nat.le_of_ble_eq_true rfl) hp.1 (c_indexOf hp hpS.1 (by omega) (by omega)) ?_
            rw [if_pos (by rw [zHas, hw1.1, hw1.2]; exact hin), hw1.1]
            refine zw_iald 47 rfl dX6_findIn_46 (by first | assumption | exact zx_o0 | exact zx_o _ _ _ rfl) (by omega) (by omega) ?_
            rw [hm'.2.1 _ _ hin]
            have hr := hJ'.2.2 i j
            refine zw_iconst 48 rfl dX6_findIn_47 ?_
            refine zw_icmp_ne 70 51 rfl dX6_findIn_48 (by decide) (by omega) (by omega) (fun h_48 => ?_) (fun h_48 => ?_)
            · first | exact L70 (by omega) _ (by rw [rStep, if_neg h_48]; exact hm') | exact L70 (by omega) _ (by rw [rStep, if_pos h_48]; exact ⟨fun b hb => by rw [zu_row _ _ (by omega)]; exact hg.1 b hb, fun c d hcd => by rw [zu_row _ _ (by omega)]; exact hg.2.1 c d hcd, zu_eq _ _ _ _⟩)
            · refine zw_aload_n 52 rfl dX6_findIn_51 rfl ?_
              refine zw_aload_n 53 rfl dX6_findIn_52 rfl ?_
              refine zw_iload_n 54 rfl dX6_findIn_53 rfl ?_
              refine zw_iload 56 rfl dX6_findIn_54 rfl ?_
              refine zw_iload_n 57 rfl dX6_findIn_56 rfl ?_
              refine zw_cVr4 60 rfl dX6_findIn_57 kX6_findIn_43 (Nat.le_of_ble_eq_true rfl) (by first | assumption | exact zx_o0 | exact zx_o _ _ _ rfl) (c_flood (s := (s'.1, [])) hp h h0 hn ⟨fun b hb => by rw [zu_row _ _ (by omega)]; exact hm'.1 b hb, fun c d hcd => by rw [zu_row _ _ (by omega)]; exact hm'.2.1 c d hcd, fun k hk => by simp at hk, by rw [zu_eq]; simp, by rw [zu_k _ _ (by omega)]; exact hm'.2.2⟩ (hJ'.start (by omega)) ⟨by simp [rcnt_0 hJ'.2.1], fun e he => by simp at he, hJ'.2.2⟩ (by omega) ht (by omega) (by omega)) ?_
              rintro _ _ ⟨rfl, σ2, rfl, hg⟩
              refine zw_aload_n 61 rfl dX6_findIn_60 rfl ?_
              refine zw_dup 62 rfl dX6_findIn_61 rfl ?_
              refine zw_geti 65 rfl dX6_findIn_62 fl_X6_27 (by first | assumption | exact zx_o0 | exact zx_o _ _ _ rfl) ?_
              rw [hg.2.2.2.2]
              refine zw_iconst 66 rfl dX6_findIn_65 ?_
              refine zw_iadd 67 rfl dX6_findIn_66 ?_
              refine zw_puti 70 rfl dX6_findIn_67 fp_X6_27 (by first | assumption | exact zx_o0 | exact zx_o _ _ _ rfl) ?_
              first | exact L70 (by omega) _ (by rw [rStep, if_neg h_48]; exact hm') | exact L70 (by omega) _ (by rw [rStep, if_pos h_48]; exact ⟨fun b hb => by rw [zu_row _ _ (by omega)]; exact hg.1 b hb, fun c d hcd => by rw [zu_row _ _ (by omega)]; exact hg.2.1 c d hcd, zu_eq _ _ _ _⟩)
      have hpS : xrPic σs a p := h.c (hm.1 _ (by omega)) (hm.1 _ (by omega))
      refine zw_iload_n 16 rfl dX6_findIn_15 rfl ?_
      refine zw_aload_n 17 rfl dX6_findIn_16 rfl ?_
      refine zw_geti 20 rfl dX6_findIn_17 fl_X6_31 hp.1 ?_
      rw [(hpS.wh h0).1.2]
      refine zw_icmp_ge 82 23 rfl dX6_findIn_20 (by decide) (by omega) (by omega) (fun h_20 => ?_) (fun h_20 => ?_)
      · exact zw_vret (st := []) dX6_findIn_82 rfl ⟨rfl, _, rfl, by rw [show p.2.1.toNat = j by omega, ← hs]; exact hm⟩
      · refine zw_iconst 24 rfl dX6_findIn_23 ?_
        refine zw_istore 26 rfl dX6_findIn_24 (Nat.le_of_ble_eq_true rfl) rfl ?_
        exact inner (p.1.toNat + 1) 0 s _ (by omega) (by omega) (by omega) rfl hJ hm
  refine zw_aload_n 1 rfl dX6_findIn_0 rfl ?_
  refine zw_getr 4 rfl dX6_findIn_1 fl_X6_9 (by first | assumption | exact zx_o0 | exact zx_o _ _ _ rfl) (by first | assumption | exact zx_f0 _ _ rfl | exact zx_f _ _ _ rfl) ?_
  refine zw_iconst 5 rfl dX6_findIn_4 ?_
  refine zw_cSv2 8 rfl dX6_findIn_5 kX6_findIn_21 (Nat.le_of_ble_eq_true rfl) (c_fillI (zx_o 68 12 192 rfl) (by omega)) ?_
  refine zw_aload_n 9 rfl dX6_findIn_8 rfl ?_
  refine zw_iconst 10 rfl dX6_findIn_9 ?_
  refine zw_puti 13 rfl dX6_findIn_10 fp_X6_27 (by first | assumption | exact zx_o0 | exact zx_o _ _ _ rfl) ?_
  refine zw_iconst 14 rfl dX6_findIn_13 ?_
  refine zw_istore_n 15 rfl dX6_findIn_14 (Nat.le_of_ble_eq_true rfl) rfl ?_
  refine outer (p.2.1.toNat + 1) 0 (fun _ _ => -1, 0) _ (by omega) (by omega) rfl ⟨by simp, fun x y hxy => by simp, fun x y => by simp⟩ ⟨fun b hb => by rw [zu_row _ _ (by omega), zr_ne _ _ (by omega)], fun x y hxy => ?_, zu_eq _ _ _ _⟩
  rw [zu_row _ _ (by omega), zr_eq]
  have := zz_ix hxy.1 hxy.2 hwh.2.1.2 hwh.2.2.2
  rw [if_pos (by omega)]
/-! ===== loops that go downwards ===== -/
def zdr {α : Type} (f : Nat → α → α) : Nat → Nat → α → α
  | 0, _, a => a
  | m + 1, k, a => f k (zdr f m (k + 1) a)
theorem zdr_eq {α : Type} {f : Nat → α → α} (hc : ∀ i j a, f i (f j a) = f j (f i a)) : ∀ (m k : Nat) (a : α), zdr f m k a = zfold (fun i => f (k + i)) m a
  | 0, _, _ => rfl
  | m + 1, k, a => by
    simp only [zdr]
    rw [zdr_eq hc m (k + 1) a]
    have key : ∀ n (b : α), f k (zfold (fun i => f (k + 1 + i)) n b) = zfold (fun i => f (k + i)) (n + 1) b := by
      intro n
      induction n with
      | zero => intro b; rfl
      | succ n ih =>
        intro b
        have e : zfold (fun i => f (k + i)) (n + 1 + 1) b = f (k + (n + 1)) (zfold (fun i => f (k + i)) (n + 1) b) := rfl
        rw [e, ← ih b]
        simp only [zfold]
        rw [hc, show k + 1 + n = k + (n + 1) by omega]
    exact key m a
/-- the first place at which something is so, from k on; 0 if nowhere -/
def zlow (m : Nat → Bool) : Nat → Nat → Int
  | 0, _ => 0
  | n + 1, k => if m k then k else zlow m n (k + 1)
/-! ===== what is told of a region ===== -/
def rLeast (p : zPc) (R : Int → Int → Int) (i : Int) : Int := zwin 0 p.1 0 p.2.1 (fun x y m => if R x y = i then (if p.2.2 x y < m then p.2.2 x y else m) else m) 255
def rMost (p : zPc) (R : Int → Int → Int) (i : Int) : Int := zwin 0 p.1 0 p.2.1 (fun x y m => if R x y = i then (if m < p.2.2 x y then p.2.2 x y else m) else m) 0
/-- the place of the first dot, row by row -/
def rFst (p : zPc) (R : Int → Int → Int) (i : Int) : Int := zlow (fun d => R ((d : Int) % p.1) ((d : Int) / p.1) = i) (p.1 * p.2.1).toNat 0
def rTell (p : zPc) (R : Int → Int → Int) (i what : Int) : Int := if what = 0 then rFst p R i % p.1 else if what = 1 then rFst p R i / p.1 else if what = 2 then rcnt p i R else if what = 3 then rLeast p R i else rMost p R i
theorem zlow_r {m : Nat → Bool} : ∀ (n k : Nat), 0 ≤ zlow m n k ∧ zlow m n k ≤ k + n
  | 0, k => by simp only [zlow]; omega
  | n + 1, k => by
    have := zlow_r (m := m) n (k + 1)
    simp only [zlow]
    split <;> omega
theorem zz_dm {w h : Int} {d : Nat} (hw : 0 < w) (hd : (d : Int) < w * h) : ((0 ≤ (d : Int) % w ∧ (d : Int) % w < w) ∧ 0 ≤ (d : Int) / w ∧ (d : Int) / w < h) ∧ (d : Int) / w * w + (d : Int) % w = d := by
  have e2 := Int.emod_nonneg (d : Int) (show w ≠ 0 by omega)
  have e3 := Int.emod_lt_of_pos (d : Int) hw
  have e4 : 0 ≤ (d : Int) / w := Int.ediv_nonneg (by omega) (by omega)
  have e5 : (d : Int) / w < h := Int.ediv_lt_of_lt_mul hw (by rw [Int.mul_comm]; exact hd)
  have e1 : (d : Int) / w * w + (d : Int) % w = d := by have := Int.emod_add_mul_ediv (d : Int) w; rw [Int.mul_comm]; omega
  exact ⟨⟨⟨e2, e3⟩, e4, e5⟩, e1⟩
theorem c_tell {G : zG} {B a : Nat} {σ1 σ τ : zSt} {p : zPc} {s : zRm} {num what : Int} (hp : zPic (zxS B) a (a + 1)) (h : xrPic σ1 a p) (h0 : 0 < p.1) (hn : B + 74 ≤ a ∧ a + 1 < B + 86) (hm : xRM B σ1 p s σ) (hr : ∀ x y, -1 ≤ s.1 x y ∧ s.1 x y ≤ 192) (hnum : 0 ≤ num ∧ num ≤ 192) (hwhat : 0 ≤ what ∧ what ≤ 4) : zC G M_X6_tell [.ref (B + 67), .ref a, vi num, vi what] (zxS B, σ, τ) (zR (some (vi (rTell p s.1 num what))) (zxS B, σ, τ)) := by
  have hpS : xrPic σ a p := h.c (hm.1 _ (by omega)) (hm.1 _ (by omega))
  have hwh := hpS.wh h0
  have hcn := zz_wh (w := p.1) (h := p.2.1) (by omega) (by omega)
  obtain ⟨ha, hs, hsa, hne⟩ := id hp
  have hnb : ∀ d : Nat, (d : Int) < p.1 * p.2.1 → σ (B + 68) d = s.1 ((d : Int) % p.1) ((d : Int) / p.1) := fun d hd => by
    have := zz_dm (w := p.1) (h := p.2.1) h0 hd
    have t := hm.2.1 ((d : Int) % p.1) ((d : Int) / p.1) this.1
    rw [this.2, Int.toNat_natCast] at t
    exact t
  have hsd := hpS.sd h0
  unfold zSd at hsd
  rw [hwh.1.1, hwh.1.2] at hsd
  obtain ⟨N, hN⟩ : ∃ N : Nat, p.1 * p.2.1 = N := ⟨(p.1 * p.2.1).toNat, by omega⟩
  have c1 : zdr (fun d (c : Int) => if σ (B + 68) d = num then c + 1 else c) N 0 0 = rcnt p num s.1 := by
    rw [zdr_eq (fun i j a => by (repeat' split) <;> rfl)]
    unfold rcnt
    rw [← zfold_win (F := fun d (c : Int) => if σ (B + 68) d = num then c + 1 else c) (by omega) (by omega) (fun x y hx hy c => by rw [hm.2.1 x y ⟨hx, hy⟩]; split <;> omega) 0, hN, Int.toNat_natCast]
    exact zfold_cong _ _ (fun i b hi => by rw [Nat.zero_add])
  have c2 : zdr (fun d (m : Int) => if σ (B + 68) d = num then (if σ (a + 1) d < m then σ (a + 1) d else m) else m) N 0 255 = rLeast p s.1 num := by
    rw [zdr_eq (fun i j a => by (repeat' split) <;> omega)]
    unfold rLeast
    rw [← zfold_win (F := fun d (m : Int) => if σ (B + 68) d = num then (if σ (a + 1) d < m then σ (a + 1) d else m) else m) (by omega) (by omega) (fun x y hx hy c => by rw [hm.2.1 x y ⟨hx, hy⟩, ((hpS.2.2 h0).2.2 x y hx hy).1]) 255, hN, Int.toNat_natCast]
    exact zfold_cong _ _ (fun i b hi => by rw [Nat.zero_add])
  have c3 : zdr (fun d (m : Int) => if σ (B + 68) d = num then (if m < σ (a + 1) d then σ (a + 1) d else m) else m) N 0 0 = rMost p s.1 num := by
    rw [zdr_eq (fun i j a => by (repeat' split) <;> omega)]
    unfold rMost
    rw [← zfold_win (F := fun d (m : Int) => if σ (B + 68) d = num then (if m < σ (a + 1) d then σ (a + 1) d else m) else m) (by omega) (by omega) (fun x y hx hy c => by rw [hm.2.1 x y ⟨hx, hy⟩, ((hpS.2.2 h0).2.2 x y hx hy).1]) 0, hN, Int.toNat_natCast]
    exact zfold_cong _ _ (fun i b hi => by rw [Nat.zero_add])
  have c4 : rFst p s.1 num = zlow (fun d => s.1 ((d : Int) % p.1) ((d : Int) / p.1) = num) N 0 := by unfold rFst; rw [hN, Int.toNat_natCast]
  generalize hM : (fun d : Nat => decide (s.1 ((d : Int) % p.1) ((d : Int) / p.1) = num)) = M at c4
  have hM' : ∀ d, M d = decide (s.1 ((d : Int) % p.1) ((d : Int) / p.1) = num) := fun d => by rw [← hM]
  generalize hC : (fun (d : Nat) (c : Int) => if σ (B + 68) d = num then c + 1 else c) = C at c1
  generalize hL : (fun (d : Nat) (m : Int) => if σ (B + 68) d = num then (if σ (a + 1) d < m then σ (a + 1) d else m) else m) = L at c2
  generalize hG : (fun (d : Nat) (m : Int) => if σ (B + 68) d = num then (if m < σ (a + 1) d then σ (a + 1) d else m) else m) = K at c3
  have gC : ∀ d c, C d c = if σ (B + 68) d = num then c + 1 else c := fun d c => by rw [← hC]
  have gL : ∀ d m, L d m = if σ (B + 68) d = num then (if σ (a + 1) d < m then σ (a + 1) d else m) else m := fun d c => by rw [← hL]
  have gK : ∀ d m, K d m = if σ (B + 68) d = num then (if m < σ (a + 1) d then σ (a + 1) d else m) else m := fun d c => by rw [← hG]
  refine zC_of 5 rfl (Nat.le_of_ble_eq_true rfl) ?_
  have fin : zW G M_X6_tell (zR (some (vi (rTell p s.1 num what))) (zxS B, σ, τ)) 79 [some (.ref (B + 67)), some (.ref a), some (vi num), some (vi what), some (vi (zdr C N 0 0)), some (vi (zlow M N 0)), some (vi (zdr L N 0 255)), some (vi (zdr K N 0 0)), some (vi (-1))] [] (zxS B, σ, τ) := by
    rw [c1, c2, c3, ← c4]
    have hfr : 0 ≤ rFst p s.1 num ∧ rFst p s.1 num ≤ 192 := by rw [c4]; have := zlow_r (m := M) N 0; omega
    refine zw_iconst 80 rfl dX6_tell_79 ?_
    refine zw_aload_n 81 rfl dX6_tell_80 rfl ?_
    refine zw_geti 84 rfl dX6_tell_81 fl_X6_36 ha ?_
    rw [hwh.1.1]
    refine zw_mmax 87 rfl dX6_tell_84 kmX6_80 ⟨Nat.le_of_ble_eq_true rfl, Nat.le_of_ble_eq_true rfl⟩ (by omega) (by omega) ?_
    rw [show (if (1 : Int) < p.1 then p.1 else 1) = p.1 by split <;> omega]
    refine zw_istore 89 rfl dX6_tell_87 (Nat.le_of_ble_eq_true rfl) rfl ?_
    refine zw_iload_n 90 rfl dX6_tell_89 rfl ?_
    rcases (show what = 0 ∨ what = 1 ∨ what = 2 ∨ what = 3 ∨ (what < 0 ∨ 3 < what) by omega) with h_90 | h_90 | h_90 | h_90 | h_90
    · refine zw_tableIn (off := 30) 120 dX6_tell_90 (by omega) (by omega) (by omega) (by rw [h_90]; rfl) (by decide) ?_
      refine zw_iload 122 rfl dX6_tell_120 rfl ?_
      refine zw_iload 124 rfl dX6_tell_122 rfl ?_
      refine zw_irem 125 rfl dX6_tell_124 (by omega) (by omega) ?_
      exact zw_iretR dX6_tell_125 rfl (by rw [rTell, if_pos h_90]) rfl
    · refine zw_tableIn (off := 36) 126 dX6_tell_90 (by omega) (by omega) (by omega) (by rw [h_90]; rfl) (by decide) ?_
      refine zw_iload 128 rfl dX6_tell_126 rfl ?_
      refine zw_iload 130 rfl dX6_tell_128 rfl ?_
      refine zw_idiv 131 rfl dX6_tell_130 (by omega) (by omega) ?_
      exact zw_iretR dX6_tell_131 rfl (by rw [rTell, if_neg (by omega), if_pos h_90]) rfl
    · refine zw_tableIn (off := 42) 132 dX6_tell_90 (by omega) (by omega) (by omega) (by rw [h_90]; rfl) (by decide) ?_
      refine zw_iload 134 rfl dX6_tell_132 rfl ?_
      exact zw_iretR dX6_tell_134 rfl (by rw [rTell, if_neg (by omega), if_neg (by omega), if_pos h_90]) rfl
    · refine zw_tableIn (off := 45) 135 dX6_tell_90 (by omega) (by omega) (by omega) (by rw [h_90]; rfl) (by decide) ?_
      refine zw_iload 137 rfl dX6_tell_135 rfl ?_
      exact zw_iretR dX6_tell_137 rfl (by rw [rTell, if_neg (by omega), if_neg (by omega), if_neg (by omega), if_pos h_90]) rfl
    · refine zw_tableOut 138 dX6_tell_90 (by omega) h_90 (by decide) ?_
      refine zw_iload 140 rfl dX6_tell_138 rfl ?_
      exact zw_iretR dX6_tell_140 rfl (by rw [rTell, if_neg (by omega), if_neg (by omega), if_neg (by omega), if_neg (by omega)]) rfl
  have loop : ∀ (k m : Nat), k + m = N → (0 ≤ zdr L m k 255 ∧ zdr L m k 255 ≤ 255) → (0 ≤ zdr K m k 0 ∧ zdr K m k 0 ≤ 255) → zW G M_X6_tell (zR (some (vi (rTell p s.1 num what))) (zxS B, σ, τ)) 22 [some (.ref (B + 67)), some (.ref a), some (vi num), some (vi what), some (vi (zdr C m k 0)), some (vi (zlow M m k)), some (vi (zdr L m k 255)), some (vi (zdr K m k 0)), some (vi ((k : Int) - 1))] [] (zxS B, σ, τ) := by
    intro k
    induction k with
    | zero =>
      intro m hk r1 r2
      have hmN : m = N := by omega
      subst hmN
      refine zw_iload 24 rfl dX6_tell_22 rfl ?_
      refine zw_if_lt 79 27 rfl dX6_tell_24 (by decide) (by omega) (fun h_24 => ?_) (fun h_24 => ?_)
      · exact fin
      · omega
    | succ k ih =>
      intro m hk r1 r2
      rw [show (((k + 1 : Nat) : Int)) - 1 = (k : Int) by omega]
      have hbk := hnb k (by omega)
      have hsk := hsd k (by omega)
      have hrk := hr ((k : Int) % p.1) ((k : Int) / p.1)
      have ih := ih (m + 1) (by omega)
      have fL : zdr L (m + 1) k 255 = if σ (B + 68) k = num then (if σ (a + 1) k < zdr L m (k + 1) 255 then σ (a + 1) k else zdr L m (k + 1) 255) else zdr L m (k + 1) 255 := by rw [← gL]; rfl
      have fK : zdr K (m + 1) k 0 = if σ (B + 68) k = num then (if zdr K m (k + 1) 0 < σ (a + 1) k then σ (a + 1) k else zdr K m (k + 1) 0) else zdr K m (k + 1) 0 := by rw [← gK]; rfl
      have fC : zdr C (m + 1) k 0 = if σ (B + 68) k = num then zdr C m (k + 1) 0 + 1 else zdr C m (k + 1) 0 := by rw [← gC]; rfl
      have fM : zlow M (m + 1) k = if σ (B + 68) k = num then (k : Int) else zlow M m (k + 1) := by
        simp only [zlow]; rw [hM', hbk]; by_cases q : s.1 ((k : Int) % p.1) ((k : Int) / p.1) = num <;> simp [q]
      rw [fL, fK, fC, fM] at ih
      refine zw_iload 24 rfl dX6_tell_22 rfl ?_
      refine zw_if_lt 79 27 rfl dX6_tell_24 (by decide) (by omega) (fun h_24 => ?_) (fun h_24 => ?_)
      · omega
      · refine zw_aload_n 28 rfl dX6_tell_27 rfl ?_
        refine zw_getr 31 rfl dX6_tell_28 fl_X6_9 (by first | assumption | exact zx_o0 | exact zx_o _ _ _ rfl) (by first | assumption | exact zx_f0 _ _ rfl | exact zx_f _ _ _ rfl) ?_
        refine zw_iload 33 rfl dX6_tell_31 rfl ?_
        refine zw_iald 34 rfl dX6_tell_33 (by first | assumption | exact zx_o0 | exact zx_o _ _ _ rfl) (by omega) (by omega) ?_
        rw [Int.toNat_natCast]
        refine zw_iload_n 35 rfl dX6_tell_34 rfl ?_
        refine zw_icmp_ne 73 38 rfl dX6_tell_35 (by decide) (by omega) (by omega) (fun h_35 => ?_) (fun h_35 => ?_)
        · refine zw_iinc 76 rfl dX6_tell_73 (Nat.le_of_ble_eq_true rfl) rfl rfl ?_
          refine zw_goto 22 dX6_tell_76 (by decide) ?_
          simp only [if_neg h_24, if_neg h_35] at ih
          rw [show (k : Int) - 1 = (k : Int) + -1 by omega] at ih
          exact ih (by (repeat' split) <;> omega) (by (repeat' split) <;> omega)
        · refine zw_iinc 41 rfl dX6_tell_38 (Nat.le_of_ble_eq_true rfl) rfl rfl ?_
          refine zw_iload 43 rfl dX6_tell_41 rfl ?_
          refine zw_istore 45 rfl dX6_tell_43 (Nat.le_of_ble_eq_true rfl) rfl ?_
          refine zw_iload 47 rfl dX6_tell_45 rfl ?_
          refine zw_aload_n 48 rfl dX6_tell_47 rfl ?_
          refine zw_getr 51 rfl dX6_tell_48 fl_X6_72 ha hs ?_
          refine zw_iload 53 rfl dX6_tell_51 rfl ?_
          refine zw_iald 54 rfl dX6_tell_53 hsa (by omega) (by omega) ?_
          refine zw_mmin 57 rfl dX6_tell_54 kmX6_75 ⟨Nat.le_of_ble_eq_true rfl, Nat.le_of_ble_eq_true rfl⟩ (by omega) (by simp only [Int.toNat_natCast]; omega) ?_
          refine zw_istore 59 rfl dX6_tell_57 (Nat.le_of_ble_eq_true rfl) rfl ?_
          refine zw_iload 61 rfl dX6_tell_59 rfl ?_
          refine zw_aload_n 62 rfl dX6_tell_61 rfl ?_
          refine zw_getr 65 rfl dX6_tell_62 fl_X6_72 ha hs ?_
          refine zw_iload 67 rfl dX6_tell_65 rfl ?_
          refine zw_iald 68 rfl dX6_tell_67 hsa (by omega) (by omega) ?_
          refine zw_mmax 71 rfl dX6_tell_68 kmX6_80 ⟨Nat.le_of_ble_eq_true rfl, Nat.le_of_ble_eq_true rfl⟩ (by omega) (by simp only [Int.toNat_natCast]; omega) ?_
          refine zw_istore 73 rfl dX6_tell_71 (Nat.le_of_ble_eq_true rfl) rfl ?_
          refine zw_iinc 76 rfl dX6_tell_73 (Nat.le_of_ble_eq_true rfl) rfl rfl ?_
          refine zw_goto 22 dX6_tell_76 (by decide) ?_
          simp only [if_neg h_24, if_pos h_35] at ih
          rw [show (k : Int) - 1 = (k : Int) + -1 by omega] at ih
          exact ih (by (repeat' split) <;> omega) (by (repeat' split) <;> omega)
  refine zw_iconst 1 rfl dX6_tell_0 ?_
  refine zw_istore 3 rfl dX6_tell_1 (Nat.le_of_ble_eq_true rfl) rfl ?_
  refine zw_iconst 4 rfl dX6_tell_3 ?_
  refine zw_istore 6 rfl dX6_tell_4 (Nat.le_of_ble_eq_true rfl) rfl ?_
  refine zw_sipush 9 rfl dX6_tell_6 rfl ?_
  refine zw_istore 11 rfl dX6_tell_9 (Nat.le_of_ble_eq_true rfl) rfl ?_
  refine zw_iconst 12 rfl dX6_tell_11 ?_
  refine zw_istore 14 rfl dX6_tell_12 (Nat.le_of_ble_eq_true rfl) rfl ?_
  refine zw_aload_n 15 rfl dX6_tell_14 rfl ?_
  refine zw_cVi0 18 rfl dX6_tell_15 kX6_tell_68 (Nat.le_of_ble_eq_true rfl) ha (c_count hp) ?_
  refine zw_iconst 19 rfl dX6_tell_18 ?_
  refine zw_isub 20 rfl dX6_tell_19 ?_
  refine zw_istore 22 rfl dX6_tell_20 (Nat.le_of_ble_eq_true rfl) rfl ?_
  rw [hwh.1.1, hwh.1.2, hN]
  exact loop N 0 (by omega) (by simp [zdr]) (by simp [zdr])
