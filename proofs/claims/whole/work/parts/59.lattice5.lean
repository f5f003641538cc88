theorem zL_shl (a : Int) {n : Nat} (hn : n ≤ 18) : zL a <<< ((zI n).toInt64 &&& 63) = zL (a * 2 ^ n) := by
  have h1 : ∀ m : Fin 19, (zI m.val).toInt64 &&& 63 = Int64.ofNat m.val := by decide
  have h2 := h1 ⟨n, by omega⟩
  simp only at h2
  rw [h2]
  have h3 : zL (a * 2 ^ n) = zL a * Int64.ofInt (2 ^ n) := by unfold zL; rw [Int64.ofInt_mul]
  rw [h3]
  apply Int64.toBitVec_inj.mp
  rw [Int64.toBitVec_shiftLeft, Int64.toBitVec_mul]
  have h4 : ∀ m : Fin 19, ((Int64.ofNat m.val).toBitVec.smod 64#64) = BitVec.ofNat 64 m.val ∧ (Int64.ofInt (2 ^ m.val)).toBitVec = BitVec.twoPow 64 m.val := by decide
  have h5 := h4 ⟨n, by omega⟩
  simp only at h5
  rw [show (64 : BitVec 64) = 64#64 from rfl, h5.1, h5.2, BitVec.shiftLeft_eq', BitVec.toNat_ofNat, Nat.mod_eq_of_lt (by omega), BitVec.shiftLeft_eq_mul_twoPow]
/-- a sum over the dots of a picture -/
theorem zsumD_r {w h M : Int} {f : Int → Int → Int} (hw : 0 < w ∧ w ≤ 16) (hh : 0 < h ∧ h ≤ 12) (hM : 0 ≤ M) (q : ∀ x y : Int, 0 ≤ x ∧ x < w → 0 ≤ y ∧ y < h → 0 ≤ f x y ∧ f x y ≤ M) : 0 ≤ zsumD w h f ∧ zsumD w h f ≤ 192 * M := by
  have := zwin_ind (f := fun x y a => a + f x y) (x0 := 0) (x1 := w) (y0 := 0) (y1 := h) (a := 0) (fun n a => 0 ≤ a ∧ a ≤ n * M) (by simp) (fun n x y b hx hy hb => by
    have := q x y hx hy
    rw [show (((n + 1 : Nat) : Int)) = (n : Int) + 1 by omega, Int.add_mul]
    omega)
  have h1 : ((h - 0).toNat * (w - 0).toNat : Nat) ≤ 192 := Nat.mul_le_mul (show (h - 0).toNat ≤ 12 by omega) (show (w - 0).toNat ≤ 16 by omega)
  have h2 : (((h - 0).toNat * (w - 0).toNat : Nat) : Int) * M ≤ 192 * M := Int.mul_le_mul_of_nonneg_right (by omega) hM
  exact ⟨this.1, Int.le_trans this.2 h2⟩
theorem aSum_r {p : zPc} (hw : 0 < p.1 ∧ p.1 ≤ 16) (hh : 0 < p.2.1 ∧ p.2.1 ≤ 12) (q : ∀ x y : Int, 0 ≤ x ∧ x < p.1 → 0 ≤ y ∧ y < p.2.1 → 0 ≤ p.2.2 x y ∧ p.2.2 x y ≤ 255) : 0 ≤ aSum p ∧ aSum p ≤ 48960 := zsumD_r (M := 255) hw hh (by omega) q
def zTot (g : zGr) (b : Int) : Int := (if b = 0 then g.1.1 * g.1.2.1 else aSum g.1) * (g.2.2.1 * g.2.2.1 * g.2.2.2.1) * 2 ^ (2 * (g.2.2.2.2.1 + g.2.2.2.2.2.1 + g.2.2.2.2.2.2)).toNat
theorem c_allHold {G : zG} {S : zSh} {σ τ : zSt} {l : Nat} {g : zGr} {b : Int} (hL : zLat S l) (hg : xrL σ l g) (hb : b = 0 ∨ b = 1) : zC G M_X1_allHold [.ref l, vi b] (S, σ, τ) (zR (some (vl (zTot g b))) (S, σ, τ)) := by
  obtain ⟨ho, hf0, hf1, hf2, hf3, hf4, hp1, hp3, ho5, ho6, ho7⟩ := id hL
  have ho1 := hp1.1
  have ho3 := hp3.1
  obtain ⟨hk, hP, hP2, hs, hr, hb0, hb1, hb2, hA, hD⟩ := id hg
  unfold zGok at hk
  obtain ⟨k1, k2, k3, k4, k5, k6, k7, k8, k9, k10⟩ := hk
  have hwh := (hP.wh (by omega)).1
  have hcn := zz_wh (w := g.1.1) (h := g.1.2.1) (by omega) (by omega)
  have has := aSum_r (p := g.1) (by omega) (by omega) (fun x y hx hy => (k10 x y hx hy).1)
  refine zC_of 4 rfl (Nat.le_of_ble_eq_true rfl) ?_
  have hsh : ∀ a : Int, vl (zL a <<< ((zI (2 * (g.2.2.2.2.1 + g.2.2.2.2.2.1 + g.2.2.2.2.2.2))).toInt64 &&& 63)).toInt = vl (a * 2 ^ (2 * (g.2.2.2.2.1 + g.2.2.2.2.2.1 + g.2.2.2.2.2.2)).toNat) := fun a => by
    obtain ⟨n, hn⟩ : ∃ n : Nat, 2 * (g.2.2.2.2.1 + g.2.2.2.2.2.1 + g.2.2.2.2.2.2) = n := ⟨_, (Int.toNat_of_nonneg (by omega)).symm⟩
    rw [hn, zL_shl a (by omega), Int.toNat_natCast]
    show Value.long (Int64.ofInt (Int64.toInt _)) = _
    rw [Int64.ofInt_toInt]
  refine zw_aload_n 1 rfl dX1_allHold_0 rfl ?_
  refine zw_geti 4 rfl dX1_allHold_1 fl_X1_31 (by first | assumption | exact zx_o0 | exact zx_o _ _ _ rfl) ?_
  rw [hs]
  refine zw_i2l 5 rfl dX1_allHold_4 (by omega) ?_
  refine zw_aload_n 6 rfl dX1_allHold_5 rfl ?_
  refine zw_geti 9 rfl dX1_allHold_6 fl_X1_31 (by first | assumption | exact zx_o0 | exact zx_o _ _ _ rfl) ?_
  rw [hs]
  refine zw_i2l 10 rfl dX1_allHold_9 (by omega) ?_
  refine zw_lmul 11 rfl dX1_allHold_10 ?_
  refine zw_aload_n 12 rfl dX1_allHold_11 rfl ?_
  refine zw_geti 15 rfl dX1_allHold_12 fl_X1_39 (by first | assumption | exact zx_o0 | exact zx_o _ _ _ rfl) ?_
  rw [hr]
  refine zw_i2l 16 rfl dX1_allHold_15 (by omega) ?_
  refine zw_lmul 17 rfl dX1_allHold_16 ?_
  refine zw_lstore_n 18 rfl dX1_allHold_17 (Nat.le_of_ble_eq_true rfl) rfl ?_
  refine zw_iload_n 19 rfl dX1_allHold_18 rfl ?_
  refine zw_if_eq 33 22 rfl dX1_allHold_19 (by decide) (by omega) (fun h_19 => ?_) (fun h_19 => ?_)
  · refine zw_aload_n 34 rfl dX1_allHold_33 rfl ?_
    refine zw_getr 37 rfl dX1_allHold_34 fl_X1_12 (by first | assumption | exact zx_o0 | exact zx_o _ _ _ rfl) (by first | assumption | exact zx_f0 _ _ rfl | exact zx_f _ _ _ rfl) ?_
    refine zw_cVi0 40 rfl dX1_allHold_37 kX1_allHold_81 (Nat.le_of_ble_eq_true rfl) hp1.1 (c_count hp1) ?_
    rw [hwh.1, hwh.2]
    refine zw_i2l 41 rfl dX1_allHold_40 (by omega) ?_
    refine zw_lstore 43 rfl dX1_allHold_41 (Nat.le_of_ble_eq_true rfl) rfl ?_
    refine zw_lload 45 rfl dX1_allHold_43 rfl ?_
    refine zw_lload_n 46 rfl dX1_allHold_45 rfl ?_
    refine zw_lmul 47 rfl dX1_allHold_46 ?_
    refine zw_iconst 48 rfl dX1_allHold_47 ?_
    refine zw_aload_n 49 rfl dX1_allHold_48 rfl ?_
    refine zw_getr 52 rfl dX1_allHold_49 fl_X1_21 (by first | assumption | exact zx_o0 | exact zx_o _ _ _ rfl) (by first | assumption | exact zx_f0 _ _ rfl | exact zx_f _ _ _ rfl) ?_
    refine zw_iconst 53 rfl dX1_allHold_52 ?_
    refine zw_iald 54 rfl dX1_allHold_53 (by first | assumption | exact zx_o0 | exact zx_o _ _ _ rfl) (by omega) (by omega) ?_
    rw [show (0 : Int).toNat = 0 from rfl, hb0]
    refine zw_aload_n 55 rfl dX1_allHold_54 rfl ?_
    refine zw_getr 58 rfl dX1_allHold_55 fl_X1_21 (by first | assumption | exact zx_o0 | exact zx_o _ _ _ rfl) (by first | assumption | exact zx_f0 _ _ rfl | exact zx_f _ _ _ rfl) ?_
    refine zw_iconst 59 rfl dX1_allHold_58 ?_
    refine zw_iald 60 rfl dX1_allHold_59 (by first | assumption | exact zx_o0 | exact zx_o _ _ _ rfl) (by omega) (by omega) ?_
    rw [show (1 : Int).toNat = 1 from rfl, hb1]
    refine zw_iadd 61 rfl dX1_allHold_60 ?_
    refine zw_aload_n 62 rfl dX1_allHold_61 rfl ?_
    refine zw_getr 65 rfl dX1_allHold_62 fl_X1_21 (by first | assumption | exact zx_o0 | exact zx_o _ _ _ rfl) (by first | assumption | exact zx_f0 _ _ rfl | exact zx_f _ _ _ rfl) ?_
    refine zw_iconst 66 rfl dX1_allHold_65 ?_
    refine zw_iald 67 rfl dX1_allHold_66 (by first | assumption | exact zx_o0 | exact zx_o _ _ _ rfl) (by omega) (by omega) ?_
    rw [show (2 : Int).toNat = 2 from rfl, hb2]
    refine zw_iadd 68 rfl dX1_allHold_67 ?_
    refine zw_imul 69 rfl dX1_allHold_68 ?_
    refine zw_lshl 70 rfl dX1_allHold_69 ?_
    rw [hsh]
    exact zw_lretR dX1_allHold_70 rfl (by unfold zTot; first | rw [if_pos h_19] | rw [if_neg h_19]) rfl
  · refine zw_aload_n 23 rfl dX1_allHold_22 rfl ?_
    refine zw_getr 26 rfl dX1_allHold_23 fl_X1_12 (by first | assumption | exact zx_o0 | exact zx_o _ _ _ rfl) (by first | assumption | exact zx_f0 _ _ rfl | exact zx_f _ _ _ rfl) ?_
    refine zw_cVi0 29 rfl dX1_allHold_26 kX1_allHold_77 (Nat.le_of_ble_eq_true rfl) hp1.1 (c_togetherP hp1 hP (by omega)) ?_
    refine zw_i2l 30 rfl dX1_allHold_29 (by omega) ?_
    refine zw_goto 41 dX1_allHold_30 (by decide) ?_
    refine zw_lstore 43 rfl dX1_allHold_41 (Nat.le_of_ble_eq_true rfl) rfl ?_
    refine zw_lload 45 rfl dX1_allHold_43 rfl ?_
    refine zw_lload_n 46 rfl dX1_allHold_45 rfl ?_
    refine zw_lmul 47 rfl dX1_allHold_46 ?_
    refine zw_iconst 48 rfl dX1_allHold_47 ?_
    refine zw_aload_n 49 rfl dX1_allHold_48 rfl ?_
    refine zw_getr 52 rfl dX1_allHold_49 fl_X1_21 (by first | assumption | exact zx_o0 | exact zx_o _ _ _ rfl) (by first | assumption | exact zx_f0 _ _ rfl | exact zx_f _ _ _ rfl) ?_
    refine zw_iconst 53 rfl dX1_allHold_52 ?_
    refine zw_iald 54 rfl dX1_allHold_53 (by first | assumption | exact zx_o0 | exact zx_o _ _ _ rfl) (by omega) (by omega) ?_
    rw [show (0 : Int).toNat = 0 from rfl, hb0]
    refine zw_aload_n 55 rfl dX1_allHold_54 rfl ?_
    refine zw_getr 58 rfl dX1_allHold_55 fl_X1_21 (by first | assumption | exact zx_o0 | exact zx_o _ _ _ rfl) (by first | assumption | exact zx_f0 _ _ rfl | exact zx_f _ _ _ rfl) ?_
    refine zw_iconst 59 rfl dX1_allHold_58 ?_
    refine zw_iald 60 rfl dX1_allHold_59 (by first | assumption | exact zx_o0 | exact zx_o _ _ _ rfl) (by omega) (by omega) ?_
    rw [show (1 : Int).toNat = 1 from rfl, hb1]
    refine zw_iadd 61 rfl dX1_allHold_60 ?_
    refine zw_aload_n 62 rfl dX1_allHold_61 rfl ?_
    refine zw_getr 65 rfl dX1_allHold_62 fl_X1_21 (by first | assumption | exact zx_o0 | exact zx_o _ _ _ rfl) (by first | assumption | exact zx_f0 _ _ rfl | exact zx_f _ _ _ rfl) ?_
    refine zw_iconst 66 rfl dX1_allHold_65 ?_
    refine zw_iald 67 rfl dX1_allHold_66 (by first | assumption | exact zx_o0 | exact zx_o _ _ _ rfl) (by omega) (by omega) ?_
    rw [show (2 : Int).toNat = 2 from rfl, hb2]
    refine zw_iadd 68 rfl dX1_allHold_67 ?_
    refine zw_imul 69 rfl dX1_allHold_68 ?_
    refine zw_lshl 70 rfl dX1_allHold_69 ?_
    rw [hsh]
    exact zw_lretR dX1_allHold_70 rfl (by unfold zTot; first | rw [if_pos h_19] | rw [if_neg h_19]) rfl
/-! ===== reading ===== -/
def zRW (g : zGr) (x y sh : Int) : Int := zsumD g.1.1 g.1.2.1 (fun u v => zbond y v g.2.2.1 g.2.2.2.2.2.1 * zbond x u g.2.2.1 g.2.2.2.2.1 * zbond sh (g.2.1.2.2 u v) g.2.2.2.1 g.2.2.2.2.2.2)
def zRS (g : zGr) (x y sh : Int) : Int := zsumD g.1.1 g.1.2.1 (fun u v => zbond y v g.2.2.1 g.2.2.2.2.2.1 * zbond x u g.2.2.1 g.2.2.2.2.1 * zbond sh (g.2.1.2.2 u v) g.2.2.2.1 g.2.2.2.2.2.2 * g.1.2.2 u v)
theorem c_gather {G : zG} {S : zSh} {σ τ : zSt} {l : Nat} {g : zGr} {x y sh : Int} (hL : zLat S l) (hg : xrL σ l g) (hxy : aIn g.1 x y) (hsh : 0 ≤ sh ∧ sh ≤ 255) : zC G M_X1_gather [.ref l, vi x, vi y, vi sh] (S, σ, τ) (fun r w => r = none ∧ ∃ τ' : zSt, w = (S, σ, τ') ∧ (∀ b, b ≠ l → τ' b = τ b) ∧ τ' l 7 = zRW g x y sh ∧ τ' l 8 = zRS g x y sh) := by
  obtain ⟨ho, hf0, hf1, hf2, hf3, hf4, hp1, hp3, ho5, ho6, ho7⟩ := id hL
  have ho1 := hp1.1
  have ho3 := hp3.1
  obtain ⟨hk, hP, hP2, hs, hr, hb0, hb1, hb2, hA, hD⟩ := id hg
  unfold zGok at hk
  obtain ⟨k1, k2, k3, k4, k5, k6, k7, k8, k9, k10⟩ := hk
  have hwh := (hP.wh (by omega)).1
  have hs1 := hp1.2.1
  have hs3 := hp3.2.1
  have ht1 := hp1.2.2.1
  have ht3 := hp3.2.2.1
  obtain ⟨hx, hy⟩ := hxy
  refine zC_of 7 rfl (Nat.le_of_ble_eq_true rfl) ?_
  generalize hF : (fun (u v : Int) (s : Int × Int) => (s.1 + zbond y v g.2.2.1 g.2.2.2.2.2.1 * zbond x u g.2.2.1 g.2.2.2.2.1 * zbond sh (g.2.1.2.2 u v) g.2.2.2.1 g.2.2.2.2.2.2, s.2 + zbond y v g.2.2.1 g.2.2.2.2.2.1 * zbond x u g.2.2.1 g.2.2.2.2.1 * zbond sh (g.2.1.2.2 u v) g.2.2.2.1 g.2.2.2.2.2.2 * g.1.2.2 u v)) = F
  have hF' : ∀ u v s, F u v s = (s.1 + zbond y v g.2.2.1 g.2.2.2.2.2.1 * zbond x u g.2.2.1 g.2.2.2.2.1 * zbond sh (g.2.1.2.2 u v) g.2.2.2.1 g.2.2.2.2.2.2, s.2 + zbond y v g.2.2.1 g.2.2.2.2.2.1 * zbond x u g.2.2.1 g.2.2.2.2.1 * zbond sh (g.2.1.2.2 u v) g.2.2.2.1 g.2.2.2.2.2.2 * g.1.2.2 u v) := fun u v s => by rw [← hF]
  have hE : (zRW g x y sh, zRS g x y sh) = zfold (fun (j : Nat) => zfold (fun (i : Nat) => F (0 + i) (0 + j)) g.1.1.toNat) g.1.2.1.toNat (0, 0) := by
    have : (zRW g x y sh, zRS g x y sh) = zwin 0 g.1.1 0 g.1.2.1 F (0, 0) := by
      have := zwin_rel (f := fun u v a => a + zbond y v g.2.2.1 g.2.2.2.2.2.1 * zbond x u g.2.2.1 g.2.2.2.2.1 * zbond sh (g.2.1.2.2 u v) g.2.2.2.1 g.2.2.2.2.2.2) (g := F) (x0 := 0) (x1 := g.1.1) (y0 := 0) (y1 := g.1.2.1) (a := 0) (b := (0, 0)) (fun a b => b.1 = a) rfl (fun u v a b hx hy q => by rw [hF']; simp only; rw [q])
      have t2 := zwin_rel (f := fun u v a => a + zbond y v g.2.2.1 g.2.2.2.2.2.1 * zbond x u g.2.2.1 g.2.2.2.2.1 * zbond sh (g.2.1.2.2 u v) g.2.2.2.1 g.2.2.2.2.2.2 * g.1.2.2 u v) (g := F) (x0 := 0) (x1 := g.1.1) (y0 := 0) (y1 := g.1.2.1) (a := 0) (b := (0, 0)) (fun a b => b.2 = a) rfl (fun u v a b hx hy q => by rw [hF']; simp only; rw [q])
      exact (Prod.ext this t2).symm
    rw [this]; unfold zwin; rw [Int.sub_zero, Int.sub_zero]
  generalize hO : (fun (j : Nat) => zfold (fun (i : Nat) => F (0 + i) (0 + j)) g.1.1.toNat) = O at hE
  have hO' : ∀ j c, O j c = zfold (fun (i : Nat) => F (0 + i) (0 + j)) g.1.1.toNat c := fun j c => by rw [← hO]
  have outer : ∀ (fu v : Nat) (s : Int × Int) (τs : zSt), (v : Int) ≤ g.1.2.1 → g.1.2.1 - v < fu → s = zfold O v (0, 0) → ((∀ b, b ≠ l → τs b = τ b) ∧ τs l 7 = s.1 ∧ τs l 8 = s.2) → zW G M_X1_gather (fun r w => r = none ∧ ∃ τ' : zSt, w = (S, σ, τ') ∧ (∀ b, b ≠ l → τ' b = τ b) ∧ τ' l 7 = zRW g x y sh ∧ τ' l 8 = zRS g x y sh) 29 [some (.ref l), some (vi x), some (vi y), some (vi sh), some (vi (v * g.1.1)), some (vi v), none, none, none, none, none] [] (S, σ, τs) := by
    intro fu
    induction fu with
    | zero => intro v s τs h1 h2; omega
    | succ fu ih =>
      intro v s τs h1 h2 hss hm
      generalize hI : (fun (i : Nat) => F (0 + i) (0 + v)) = I
      have hI' : ∀ u c, I u c = F u v c := fun u c => by rw [← hI]; show F (0 + (u : Int)) (0 + (v : Int)) c = _; rw [Int.zero_add, Int.zero_add]
      have inner : ∀ (fm u : Nat) (s' : Int × Int) (τs : zSt), (v : Int) < g.1.2.1 → (u : Int) ≤ g.1.1 → g.1.1 - u < fm → s' = zfold I u s → ((∀ b, b ≠ l → τs b = τ b) ∧ τs l 7 = s'.1 ∧ τs l 8 = s'.2) → zW G M_X1_gather (fun r w => r = none ∧ ∃ τ' : zSt, w = (S, σ, τ') ∧ (∀ b, b ≠ l → τ' b = τ b) ∧ τ' l 7 = zRW g x y sh ∧ τ' l 8 = zRS g x y sh) 59 [some (.ref l), some (vi x), some (vi y), some (vi sh), some (vi (v * g.1.1 + u)), some (vi v), some (vl (zbond y v g.2.2.1 g.2.2.2.2.2.1)), none, some (vi u), none, none] [] (S, σ, τs) := by
        intro fm
        induction fm with
        | zero => intro u s' τs h3 h4 h5; omega
        | succ fm ihm =>
          intro u s' τs h3 h4 h5 hs' hm'
          have L160 : (u : Int) < g.1.1 → ∀ (τs : zSt) (w0 : Int), ((∀ b, b ≠ l → τs b = τ b) ∧ τs l 7 = s'.1 + zbond y v g.2.2.1 g.2.2.2.2.2.1 * zbond x u g.2.2.1 g.2.2.2.2.1 * zbond sh (g.2.1.2.2 u v) g.2.2.2.1 g.2.2.2.2.2.2 ∧ τs l 8 = s'.2 + zbond y v g.2.2.1 g.2.2.2.2.2.1 * zbond x u g.2.2.1 g.2.2.2.2.1 * zbond sh (g.2.1.2.2 u v) g.2.2.2.1 g.2.2.2.2.2.2 * g.1.2.2 u v) → zW G M_X1_gather (fun r w => r = none ∧ ∃ τ' : zSt, w = (S, σ, τ') ∧ (∀ b, b ≠ l → τ' b = τ b) ∧ τ' l 7 = zRW g x y sh ∧ τ' l 8 = zRS g x y sh) 160 [some (.ref l), some (vi x), some (vi y), some (vi sh), some (vi (v * g.1.1 + u)), some (vi v), some (vl (zbond y v g.2.2.1 g.2.2.2.2.2.1)), none, some (vi u), some (vl w0), none] [] (S, σ, τs) := by
            intro hu τs w0 hm
            refine zw_iinc 163 rfl dX1_gather_160 (Nat.le_of_ble_eq_true rfl) rfl rfl ?_
            refine zw_iinc 166 rfl dX1_gather_163 (Nat.le_of_ble_eq_true rfl) rfl rfl ?_
            refine zw_goto 59 dX1_gather_166 (by decide) ?_
            refine zw_drop 9 ?_
            rw [show (v : Int) * g.1.1 + u + 1 = (v : Int) * g.1.1 + ((u + 1 : Nat) : Int) by omega]
            exact ihm (u + 1) (I u s') _ h3 (by omega) (by omega) (by rw [hs']; rfl) (by rw [hI', hF']; exact hm)
          by_cases hu : (u : Int) < g.1.1
          · have kk := k10 u v (by omega) (by omega)
            have r1 := zbond_r (u := x) (v := u) (z := g.2.2.1) (t := g.2.2.2.2.1) (by omega)
            have r2 := zbond_r (u := y) (v := v) (z := g.2.2.1) (t := g.2.2.2.2.2.1) (by omega)
            have r3 := zbond_r (u := sh) (v := g.2.1.2.2 u v) (z := g.2.2.2.1) (t := g.2.2.2.2.2.2) (by omega)
            have m1 := zz_m2 (a := g.2.2.1) (b := g.2.2.1) (c := 8) (d := 8) (by omega) (by omega)
            have m2 := zz_m2 (a := g.2.2.2.1) (b := g.2.2.2.1) (c := 128) (d := 128) (by omega) (by omega)
            have r4 := zz_m2 (a := zbond y v g.2.2.1 g.2.2.2.2.2.1) (b := zbond x u g.2.2.1 g.2.2.2.2.1) (c := 1280) (d := 1280) (by omega) (by omega)
            have i1 := zz_ix (x := u) (y := v) (w := g.1.1) (h := g.1.2.1) (by omega) (by omega) (by omega) (by omega)
            have hA1 := hA x u hx (by omega)
            have d1 : σ (l + 1 + 1) ((v : Int) * g.1.1 + u).toNat = g.1.2.2 u v := ((hP.2.2 (by omega)).2.2 u v (by omega) (by omega)).1
            have d3 : σ (l + 3 + 1) ((v : Int) * g.1.1 + u).toNat = g.2.1.2.2 u v := by rw [← k3]; exact ((hP2.2.2 (by omega)).2.2 u v (by omega) (by omega)).1
            refine zw_iload 61 rfl dX1_gather_59 rfl ?_
            refine zw_aload_n 62 rfl dX1_gather_61 rfl ?_
            refine zw_getr 65 rfl dX1_gather_62 fl_X1_12 (by first | assumption | exact zx_o0 | exact zx_o _ _ _ rfl) (by first | assumption | exact zx_f0 _ _ rfl | exact zx_f _ _ _ rfl) ?_
            refine zw_geti 68 rfl dX1_gather_65 fl_X1_70 (by first | assumption | exact zx_o0 | exact zx_o _ _ _ rfl) ?_
            rw [hwh.1]
            refine zw_icmp_ge 169 71 rfl dX1_gather_68 (by decide) (by omega) (by omega) (fun h_68 => ?_) (fun h_68 => ?_)
            · omega
            · refine zw_lload 73 rfl dX1_gather_71 rfl ?_
              refine zw_aload_n 74 rfl dX1_gather_73 rfl ?_
              refine zw_getr 77 rfl dX1_gather_74 fl_X1_25 (by first | assumption | exact zx_o0 | exact zx_o _ _ _ rfl) (by first | assumption | exact zx_f0 _ _ rfl | exact zx_f _ _ _ rfl) ?_
              refine zw_iload_n 78 rfl dX1_gather_77 rfl ?_
              refine zw_bipush 80 rfl dX1_gather_78 rfl ?_
              refine zw_imul 81 rfl dX1_gather_80 ?_
              refine zw_iload 83 rfl dX1_gather_81 rfl ?_
              refine zw_iadd 84 rfl dX1_gather_83 ?_
              refine zw_iald 85 rfl dX1_gather_84 (by first | assumption | exact zx_o0 | exact zx_o _ _ _ rfl) (by omega) (by omega) ?_
              rw [hA1]
              refine zw_i2l 86 rfl dX1_gather_85 (by omega) ?_
              refine zw_lmul 87 rfl dX1_gather_86 ?_
              refine zw_lstore 89 rfl dX1_gather_87 (Nat.le_of_ble_eq_true rfl) rfl ?_
              refine zw_lload 91 rfl dX1_gather_89 rfl ?_
              refine zw_lconst 92 rfl dX1_gather_91 ?_
              refine zw_lcmp 93 rfl dX1_gather_92 (by omega) (by omega) ?_
              refine zw_if_le 160 96 rfl dX1_gather_93 (by decide) (by (repeat' split) <;> omega) (fun h_93 => ?_) (fun h_93 => ?_)
              · first | exact L160 hu _ _ ⟨fun b hb => by rw [zu_row _ _ hb, zu_row _ _ hb]; exact hm'.1 b hb, by rw [zu_k _ _ (by omega), zu_eq], by rw [zu_eq]⟩ | (have e : zbond y v g.2.2.1 g.2.2.2.2.2.1 * zbond x u g.2.2.1 g.2.2.2.2.1 = 0 := by { revert h_93; (repeat' split) <;> omega }; exact L160 hu _ _ ⟨hm'.1, by rw [e, Int.zero_mul, Int.add_zero]; exact hm'.2.1, by rw [e, Int.zero_mul, Int.zero_mul, Int.add_zero]; exact hm'.2.2⟩)
              · refine zw_lload 98 rfl dX1_gather_96 rfl ?_
                refine zw_iload_n 99 rfl dX1_gather_98 rfl ?_
                refine zw_aload_n 100 rfl dX1_gather_99 rfl ?_
                refine zw_getr 103 rfl dX1_gather_100 fl_X1_18 (by first | assumption | exact zx_o0 | exact zx_o _ _ _ rfl) (by first | assumption | exact zx_f0 _ _ rfl | exact zx_f _ _ _ rfl) ?_
                refine zw_getr 106 rfl dX1_gather_103 fl_X1_99 (by first | assumption | exact zx_o0 | exact zx_o _ _ _ rfl) (by assumption) ?_
                refine zw_iload 108 rfl dX1_gather_106 rfl ?_
                refine zw_iald 109 rfl dX1_gather_108 (by first | assumption | exact zx_o0 | exact zx_o _ _ _ rfl) (by omega) (by omega) ?_
                rw [d3]
                refine zw_aload_n 110 rfl dX1_gather_109 rfl ?_
                refine zw_geti 113 rfl dX1_gather_110 fl_X1_39 (by first | assumption | exact zx_o0 | exact zx_o _ _ _ rfl) ?_
                rw [hr]
                refine zw_aload_n 114 rfl dX1_gather_113 rfl ?_
                refine zw_getr 117 rfl dX1_gather_114 fl_X1_21 (by first | assumption | exact zx_o0 | exact zx_o _ _ _ rfl) (by first | assumption | exact zx_f0 _ _ rfl | exact zx_f _ _ _ rfl) ?_
                refine zw_iconst 118 rfl dX1_gather_117 ?_
                refine zw_iald 119 rfl dX1_gather_118 (by first | assumption | exact zx_o0 | exact zx_o _ _ _ rfl) (by omega) (by omega) ?_
                rw [show (2 : Int).toNat = 2 from rfl, hb2]
                refine zw_cSi4 122 rfl dX1_gather_119 kX1_gather_102 (Nat.le_of_ble_eq_true rfl) (c_bond hsh kk.2 (by omega) k9) ?_
                refine zw_i2l 123 rfl dX1_gather_122 (by omega) ?_
                refine zw_lmul 124 rfl dX1_gather_123 ?_
                refine zw_lstore 126 rfl dX1_gather_124 (Nat.le_of_ble_eq_true rfl) rfl ?_
                refine zw_aload_n 127 rfl dX1_gather_126 rfl ?_
                refine zw_dup 128 rfl dX1_gather_127 rfl ?_
                refine zw_getl 131 rfl dX1_gather_128 fl_X1_92 (by first | assumption | exact zx_o0 | exact zx_o _ _ _ rfl) ?_
                rw [hm'.2.1]
                refine zw_lload 133 rfl dX1_gather_131 rfl ?_
                refine zw_ladd 134 rfl dX1_gather_133 ?_
                refine zw_putl 137 rfl dX1_gather_134 fp_X1_92 (by first | assumption | exact zx_o0 | exact zx_o _ _ _ rfl) ?_
                refine zw_aload_n 138 rfl dX1_gather_137 rfl ?_
                refine zw_dup 139 rfl dX1_gather_138 rfl ?_
                refine zw_getl 142 rfl dX1_gather_139 fl_X1_88 (by first | assumption | exact zx_o0 | exact zx_o _ _ _ rfl) ?_
                rw [zu_k _ _ (by omega), hm'.2.2]
                refine zw_lload 144 rfl dX1_gather_142 rfl ?_
                refine zw_aload_n 145 rfl dX1_gather_144 rfl ?_
                refine zw_getr 148 rfl dX1_gather_145 fl_X1_12 (by first | assumption | exact zx_o0 | exact zx_o _ _ _ rfl) (by first | assumption | exact zx_f0 _ _ rfl | exact zx_f _ _ _ rfl) ?_
                refine zw_getr 151 rfl dX1_gather_148 fl_X1_99 (by first | assumption | exact zx_o0 | exact zx_o _ _ _ rfl) (by assumption) ?_
                refine zw_iload 153 rfl dX1_gather_151 rfl ?_
                refine zw_iald 154 rfl dX1_gather_153 (by first | assumption | exact zx_o0 | exact zx_o _ _ _ rfl) (by omega) (by omega) ?_
                rw [d1]
                refine zw_i2l 155 rfl dX1_gather_154 (by omega) ?_
                refine zw_lmul 156 rfl dX1_gather_155 ?_
                refine zw_ladd 157 rfl dX1_gather_156 ?_
                refine zw_putl 160 rfl dX1_gather_157 fp_X1_88 (by first | assumption | exact zx_o0 | exact zx_o _ _ _ rfl) ?_
                first | exact L160 hu _ _ ⟨fun b hb => by rw [zu_row _ _ hb, zu_row _ _ hb]; exact hm'.1 b hb, by rw [zu_k _ _ (by omega), zu_eq], by rw [zu_eq]⟩ | (have e : zbond y v g.2.2.1 g.2.2.2.2.2.1 * zbond x u g.2.2.1 g.2.2.2.2.1 = 0 := by { revert h_93; (repeat' split) <;> omega }; exact L160 hu _ _ ⟨hm'.1, by rw [e, Int.zero_mul, Int.add_zero]; exact hm'.2.1, by rw [e, Int.zero_mul, Int.zero_mul, Int.add_zero]; exact hm'.2.2⟩)
          · have hue : g.1.1 = u := by omega
            refine zw_iload 61 rfl dX1_gather_59 rfl ?_
            refine zw_aload_n 62 rfl dX1_gather_61 rfl ?_
            refine zw_getr 65 rfl dX1_gather_62 fl_X1_12 (by first | assumption | exact zx_o0 | exact zx_o _ _ _ rfl) (by first | assumption | exact zx_f0 _ _ rfl | exact zx_f _ _ _ rfl) ?_
            refine zw_geti 68 rfl dX1_gather_65 fl_X1_70 (by first | assumption | exact zx_o0 | exact zx_o _ _ _ rfl) ?_
            rw [hwh.1]
            refine zw_icmp_ge 169 71 rfl dX1_gather_68 (by decide) (by omega) (by omega) (fun h_68 => ?_) (fun h_68 => ?_)
            · refine zw_iinc 172 rfl dX1_gather_169 (Nat.le_of_ble_eq_true rfl) rfl rfl ?_
              refine zw_goto 29 dX1_gather_172 (by decide) ?_
              refine zw_drop 6 ?_
              refine zw_drop 8 ?_
              rw [show (v : Int) * g.1.1 + u = ((v : Int) + 1) * g.1.1 by rw [Int.add_mul, hue]; omega]
              exact ih (v + 1) s' _ (by omega) (by omega) (by simp only [zfold]; rw [← hss, hO', hI, hs', show g.1.1.toNat = u by omega]) hm'
            · omega
      have r2 := zbond_r (u := y) (v := v) (z := g.2.2.1) (t := g.2.2.2.2.2.1) (by omega)
      have m1 := zz_m2 (a := g.2.2.1) (b := g.2.2.1) (c := 8) (d := 8) (by omega) (by omega)
      refine zw_iload 31 rfl dX1_gather_29 rfl ?_
      refine zw_aload_n 32 rfl dX1_gather_31 rfl ?_
      refine zw_getr 35 rfl dX1_gather_32 fl_X1_12 (by first | assumption | exact zx_o0 | exact zx_o _ _ _ rfl) (by first | assumption | exact zx_f0 _ _ rfl | exact zx_f _ _ _ rfl) ?_
      refine zw_geti 38 rfl dX1_gather_35 fl_X1_63 (by first | assumption | exact zx_o0 | exact zx_o _ _ _ rfl) ?_
      rw [hwh.2]
      refine zw_icmp_ge 175 41 rfl dX1_gather_38 (by decide) (by omega) (by omega) (fun h_38 => ?_) (fun h_38 => ?_)
      · exact zw_vret (st := []) dX1_gather_175 rfl ⟨rfl, _, rfl, hm.1, by rw [hm.2.1, hss, show v = g.1.2.1.toNat by omega, ← hE], by rw [hm.2.2, hss, show v = g.1.2.1.toNat by omega, ← hE]⟩
      · refine zw_aload_n 42 rfl dX1_gather_41 rfl ?_
        refine zw_getr 45 rfl dX1_gather_42 fl_X1_28 (by first | assumption | exact zx_o0 | exact zx_o _ _ _ rfl) (by first | assumption | exact zx_f0 _ _ rfl | exact zx_f _ _ _ rfl) ?_
        refine zw_iload_n 46 rfl dX1_gather_45 rfl ?_
        refine zw_bipush 48 rfl dX1_gather_46 rfl ?_
        refine zw_imul 49 rfl dX1_gather_48 ?_
        refine zw_iload 51 rfl dX1_gather_49 rfl ?_
        refine zw_iadd 52 rfl dX1_gather_51 ?_
        refine zw_iald 53 rfl dX1_gather_52 (by first | assumption | exact zx_o0 | exact zx_o _ _ _ rfl) (by omega) (by omega) ?_
        rw [hD y v hy (by omega)]
        refine zw_i2l 54 rfl dX1_gather_53 (by omega) ?_
        refine zw_lstore 56 rfl dX1_gather_54 (Nat.le_of_ble_eq_true rfl) rfl ?_
        refine zw_iconst 57 rfl dX1_gather_56 ?_
        refine zw_istore 59 rfl dX1_gather_57 (Nat.le_of_ble_eq_true rfl) rfl ?_
        have t := inner (g.1.1.toNat + 1) 0 s τs (by omega) (by omega) (by omega) rfl hm
        rw [show (v : Int) * g.1.1 + ((0 : Nat) : Int) = (v : Int) * g.1.1 by omega] at t
        exact t
  refine zw_aload_n 1 rfl dX1_gather_0 rfl ?_
  refine zw_lconst 2 rfl dX1_gather_1 ?_
  refine zw_putl 5 rfl dX1_gather_2 fp_X1_92 (by first | assumption | exact zx_o0 | exact zx_o _ _ _ rfl) ?_
  refine zw_aload_n 6 rfl dX1_gather_5 rfl ?_
  refine zw_lconst 7 rfl dX1_gather_6 ?_
  refine zw_putl 10 rfl dX1_gather_7 fp_X1_88 (by first | assumption | exact zx_o0 | exact zx_o _ _ _ rfl) ?_
  refine zw_aload_n 11 rfl dX1_gather_10 rfl ?_
  refine zw_getr 14 rfl dX1_gather_11 fl_X1_12 (by first | assumption | exact zx_o0 | exact zx_o _ _ _ rfl) (by first | assumption | exact zx_f0 _ _ rfl | exact zx_f _ _ _ rfl) ?_
  refine zw_iload_n 15 rfl dX1_gather_14 rfl ?_
  refine zw_iload_n 16 rfl dX1_gather_15 rfl ?_
  refine zw_cVi2 19 rfl dX1_gather_16 kX1_gather_59 (Nat.le_of_ble_eq_true rfl) hp1.1 (c_contains hp1 hP.1 (by omega) (by omega)) ?_
  refine zw_if_neB 23 22 rfl dX1_gather_19 (by decide) (fun h_19 => ?_) (fun h_19 => ?_)
  · refine zw_iconst 24 rfl dX1_gather_23 ?_
    refine zw_istore 26 rfl dX1_gather_24 (Nat.le_of_ble_eq_true rfl) rfl ?_
    refine zw_iconst 27 rfl dX1_gather_26 ?_
    refine zw_istore 29 rfl dX1_gather_27 (Nat.le_of_ble_eq_true rfl) rfl ?_
    have t := outer (g.1.2.1.toNat + 1) 0 (0, 0) (zu (zu τ l 7 0) l 8 0) (by omega) (by omega) rfl ⟨fun b hb => by rw [zu_row _ _ hb, zu_row _ _ hb], by rw [zu_k _ _ (by omega), zu_eq], by rw [zu_eq]⟩
    rw [show (((0 : Nat) : Int)) * g.1.1 = 0 by simp] at t
    exact t
  · exact absurd (show zHas σ (l + 1) x y by rw [zHas, hwh.1, hwh.2]; exact ⟨hx, hy⟩) h_19
