/-! ===== parts of a picture, clipped ===== -/
def aWin {α : Type} (p : zPc) (x y u v : Int) (f : Int → Int → α → α) (a : α) : α := zwin (zmx 0 x) (zmn (x + u) p.1) (zmx 0 y) (zmn (y + v) p.2.1) f a
def aWS (p : zPc) (x y u v : Int) : Int := aWin p x y u v (fun x y m => m + p.2.2 x y) 0
def aWC (p : zPc) (x y u v : Int) : Int := aWin p x y u v (fun _ _ m => m + 1) 0
def aWM (p : zPc) (x y u v : Int) (c : Nat) : Int := aWin p x y u v (fun x y m => m + if p.2.2 x y = c then 1 else 0) 0
/-- sums of a row -/
def zsumN (t : Nat → Int) (k n : Nat) : Int := zfold (fun i s => s + t (k + i)) n 0
theorem zsumN_up {t : Nat → Int} {k n v : Nat} (hv : k ≤ v ∧ v < k + n) : zsumN (fun j => if j = v then t j + 1 else t j) k n = zsumN t k n + 1 := by
  unfold zsumN
  induction n with
  | zero => omega
  | succ n ih =>
    simp only [zfold]
    by_cases e : k + n = v
    · rw [if_pos e]
      have : zfold (fun i s => s + if k + i = v then t (k + i) + 1 else t (k + i)) n 0 = zfold (fun i s => s + t (k + i)) n 0 := zfold_cong n 0 (fun i b hi => by rw [if_neg (by omega)])
      rw [this]; omega
    · rw [if_neg e, ih (by omega)]; omega
theorem zsumN_0 {t : Nat → Int} {k n : Nat} (h : ∀ j, k ≤ j → j < k + n → t j = 0) : zsumN t k n = 0 := by
  unfold zsumN
  induction n with
  | zero => rfl
  | succ n ih => simp only [zfold]; rw [ih (fun j h1 h2 => h j h1 (by omega)), h (k + n) (by omega) (by omega)]; rfl
theorem zsumN_s (t : Nat → Int) (k n : Nat) : zsumN t k (n + 1) = t k + zsumN t (k + 1) n := by
  unfold zsumN
  induction n with
  | zero => simp [zfold]
  | succ n ih =>
    have e : zfold (fun i s => s + t (k + i)) (n + 1 + 1) 0 = zfold (fun i s => s + t (k + i)) (n + 1) 0 + t (k + (n + 1)) := rfl
    rw [e, ih]
    simp only [zfold]
    rw [show k + 1 + n = k + (n + 1) by omega]; omega
theorem zrk_r {t : Nat → Int} : ∀ (n k : Nat) (l : Int), 0 ≤ l → l < zsumN t k n → (k : Int) ≤ zrk t n k l ∧ zrk t n k l < k + n
  | 0, k, l, h0, h => by simp [zsumN, zfold] at h; omega
  | n + 1, k, l, h0, h => by
    rw [zsumN_s] at h
    simp only [zrk]
    split
    · omega
    · have := zrk_r (t := t) n (k + 1) (l - t k) (by omega) (by omega)
      omega
theorem zrk_c {t t' : Nat → Int} : ∀ (n k : Nat) (l : Int), (∀ j, k ≤ j → j < k + n → t j = t' j) → zrk t n k l = zrk t' n k l
  | 0, _, _, _ => rfl
  | n + 1, k, l, h => by
    simp only [zrk]
    rw [h k (by omega) (by omega), zrk_c n (k + 1) _ (fun j h1 h2 => h j (by omega) (by omega))]
/-- the tally of a part tells its numbers -/
def tokW (p : zPc) (x y u v : Int) (T : zTt) : Prop := (T.2.1 = aWC p x y u v ∧ T.2.2 = aWS p x y u v ∧ ∀ c, c < 256 → T.1 c = aWM p x y u v c) ∧ tok ((zmn (y + v) p.2.1 - zmx 0 y).toNat * (zmn (x + u) p.1 - zmx 0 x).toNat) T ∧ zsumN T.1 0 256 = T.2.1
theorem zz_clip {x u w z : Int} (h : zmx 0 x ≤ z ∧ z < zmn (x + u) w) : 0 ≤ z ∧ z < w := by
  unfold zmx zmn at h
  revert h
  split <;> split <;> omega
theorem aTal_ok {σ : zSt} {tt : Nat} {p : zPc} {x y u v : Int} (hd : ∀ x y : Int, 0 ≤ x ∧ x < p.1 → 0 ≤ y ∧ y < p.2.1 → 0 ≤ p.2.2 x y ∧ p.2.2 x y ≤ 255) : tokW p x y u v (aTal (zT0 σ tt) p x y u v) := by
  have st : ∀ a b, zmx 0 x ≤ a ∧ a < zmn (x + u) p.1 → zmx 0 y ≤ b ∧ b < zmn (y + v) p.2.1 → 0 ≤ p.2.2 a b ∧ p.2.2 a b ≤ 255 := fun a b ha hb => hd a b (zz_clip ha) (zz_clip hb)
  refine ⟨⟨?_, ?_, fun c hc => ?_⟩, ?_, ?_⟩
  · unfold aTal aWC aWin
    exact zwin_rel (fun (T : zTt) (n : Int) => T.2.1 = n) rfl (fun a b T n ha hb h => by rw [tadd, if_pos (st a b ha hb)]; show T.2.1 + 1 = n + 1; rw [h])
  · unfold aTal aWS aWin
    exact zwin_rel (fun (T : zTt) (n : Int) => T.2.2 = n) rfl (fun a b T n ha hb h => by rw [tadd, if_pos (st a b ha hb)]; show T.2.2 + _ = n + _; rw [h])
  · unfold aTal aWM aWin
    refine zwin_rel (fun (T : zTt) (n : Int) => T.1 c = n) (by simp [zT0, hc]) (fun a b T n ha hb h => ?_)
    have := st a b ha hb
    rw [tadd, if_pos this]
    show (if c = (p.2.2 a b).toNat then T.1 c + 1 else T.1 c) = n + if p.2.2 a b = c then 1 else 0
    by_cases e : p.2.2 a b = c
    · rw [if_pos e, if_pos (by omega), h]
    · rw [if_neg e, if_neg (by omega), h]; omega
  · exact zwin_ind (fun n T => tok n T) (tok.zero σ tt) (fun n a b T ha hb hI => hI.add (st a b ha hb))
  · have := zwin_ind (f := fun x y T => tadd T (p.2.2 x y)) (x0 := zmx 0 x) (x1 := zmn (x + u) p.1) (y0 := zmx 0 y) (y1 := zmn (y + v) p.2.1) (a := zT0 σ tt) (fun _ T => zsumN T.1 0 256 = T.2.1) (zsumN_0 (fun j h1 h2 => by simp [zT0]; omega)) (fun n a b T ha hb hI => by
      have := st a b ha hb
      rw [tadd, if_pos this]
      show zsumN (fun j => if j = (p.2.2 a b).toNat then T.1 j + 1 else T.1 j) 0 256 = T.2.1 + 1
      rw [zsumN_up (by omega), hI])
    exact this
/-- a part that has a dot, and not too many -/
theorem zz_win {x y u v w h a b : Int} (hw : 1 ≤ w ∧ w ≤ 16) (hh : 1 ≤ h ∧ h ≤ 12) (ha : 0 ≤ a ∧ a < w) (hb : 0 ≤ b ∧ b < h) (hx : x ≤ a ∧ a < x + u) (hy : y ≤ b ∧ b < y + v) : 1 ≤ (zmn (y + v) h - zmx 0 y).toNat * (zmn (x + u) w - zmx 0 x).toNat ∧ (zmn (y + v) h - zmx 0 y).toNat * (zmn (x + u) w - zmx 0 x).toNat ≤ 192 := by
  have h1 : 1 ≤ (zmn (y + v) h - zmx 0 y).toNat ∧ (zmn (y + v) h - zmx 0 y).toNat ≤ 12 := by unfold zmx zmn; split <;> split <;> omega
  have h2 : 1 ≤ (zmn (x + u) w - zmx 0 x).toNat ∧ (zmn (x + u) w - zmx 0 x).toNat ≤ 16 := by unfold zmx zmn; split <;> split <;> omega
  have h3 := Nat.mul_le_mul h1.1 h2.1
  have h4 := Nat.mul_le_mul h1.2 h2.2
  omega
/-! ===== box, median ===== -/
def aBox (p : zPc) (n : Int) : zPc := (p.1, p.2.1, fun x y => znear (aWS p (x - n) (y - n) (2 * n + 1) (2 * n + 1)) (aWC p (x - n) (y - n) (2 * n + 1) (2 * n + 1)))
def aMed (p : zPc) (n : Int) : zPc := (p.1, p.2.1, fun x y => zrk (aWM p (x - n) (y - n) (2 * n + 1) (2 * n + 1)) 256 0 ((aWC p (x - n) (y - n) (2 * n + 1) (2 * n + 1) - 1) / 2))
def sp_box (A : zA) (to of n : Int) : Int × zA := aAns (if aPl to then if aTold A of then if 0 ≤ n ∧ n ≤ 4 then 0 else 2 else 1 else 1) (-1) A (aOth (aBox (A.1 of.toNat) n) (A.1 of.toNat), aAct A to.toNat (aBox (A.1 of.toNat) n))
def sp_median (A : zA) (to of n : Int) : Int × zA := aAns (if aPl to then if aTold A of then if 0 ≤ n ∧ n ≤ 4 then 0 else 2 else 1 else 1) (-1) A (aOth (aMed (A.1 of.toNat) n) (A.1 of.toNat), aAct A to.toNat (aMed (A.1 of.toNat) n))
theorem c_around0 {G : zG} {B : Nat} {σ τ : zSt} {A : zA} {to of n : Int} (h : zxR B σ τ A) (hto : -2147483648 ≤ to ∧ to ≤ 2147483647) (hof : -2147483648 ≤ of ∧ of ≤ 2147483647) (hn : -2147483648 ≤ n ∧ n ≤ 2147483647) : zC G M_X10_actAround [.ref B, vi to, vi of, vi n, vi 0] (zxS B, σ, τ) (xQ B (sp_box A to of n)) := by
  refine zC_of 4 rfl (Nat.le_of_ble_eq_true rfl) ?_
  have body : aPl to → aTold A of → (0 ≤ n ∧ n ≤ 4) → zW G M_X10_actAround (xQ B (sp_box A to of n)) 42 [some (.ref B), some (vi to), some (vi of), some (vi n), some (vi 0), none, none, none, none] [] (zxS B, zu σ B 17 0, τ) := by
    intro hc1 hc2 hc3
    have hwh := (h.p of.toNat (by omega)).wh hc2.2
    have hdr := ((h.p of.toNat (by omega)).2.2 hc2.2).2.2
    generalize hσ1 : zu σ B 17 0 = σ1
    have h17 : σ1 B 17 = 0 := by rw [← hσ1]; exact zu_eq _ _ _ _
    have hs1 : xScr B σ σ1 := by rw [← hσ1]; exact xScr.z
    have hr1 : ∀ σs, xScr B σ1 σs → σs (zpa B of.toNat) 1 = (A.1 of.toNat).1 ∧ σs (zpa B of.toNat) 2 = (A.1 of.toNat).2.1 := fun σs q => (((hs1.tr q).P h.p of.toNat (by omega)).wh hc2.2).1
    have hq6 := (zx_p6 (B := B) (i := of.toNat) (by omega))
    have hT : ∀ (σ' : zSt) (a b : Int), 0 ≤ a ∧ a < (A.1 of.toNat).1 → 0 ≤ b ∧ b < (A.1 of.toNat).2.1 → tokW (A.1 of.toNat) (a - n) (b - n) (2 * n + 1) (2 * n + 1) (aTal (zT0 σ' (B + 66)) (A.1 of.toNat) (a - n) (b - n) (2 * n + 1) (2 * n + 1)) ∧ _ := fun σ' a b ha hb => And.intro (aTal_ok (fun x y hx hy => (hdr x y hx hy).2)) (zz_win (x := a - n) (y := b - n) (u := 2 * n + 1) (v := 2 * n + 1) hwh.2.1 hwh.2.2 ha hb (by omega) (by omega))
    generalize hF : (fun a b : Int => znear (aWS (A.1 of.toNat) (a - n) (b - n) (2 * n + 1) (2 * n + 1)) (aWC (A.1 of.toNat) (a - n) (b - n) (2 * n + 1) (2 * n + 1))) = F
    have hF' : ∀ a b : Int, znear (aWS (A.1 of.toNat) (a - n) (b - n) (2 * n + 1) (2 * n + 1)) (aWC (A.1 of.toNat) (a - n) (b - n) (2 * n + 1) (2 * n + 1)) = F a b := fun a b => by rw [← hF]
    have outer : ∀ (fu : Nat) (j : Int) (σs : zSt), 0 ≤ j ∧ j ≤ (A.1 of.toNat).2.1 → (A.1 of.toNat).2.1 - j < fu → xLI B σ1 ((A.1 of.toNat).1) ((A.1 of.toNat).2.1) F (j * ((A.1 of.toNat).1)) σs → zW G M_X10_actAround (xQ B (sp_box A to of n)) 70 [some (.ref B), some (vi to), some (vi of), some (vi n), some (vi 0), some (.ref (zpa B of.toNat)), some (vi j), none, none] [] (zxS B, σs, τ) := by
      intro fu
      induction fu with
      | zero => intro j σs h1 h2; omega
      | succ fu ih =>
        intro j σs h1 h2 hl
        have inner : ∀ (fm : Nat) (i : Int) (σs : zSt), j < (A.1 of.toNat).2.1 → 0 ≤ i ∧ i ≤ (A.1 of.toNat).1 → (A.1 of.toNat).1 - i < fm → xLI B σ1 ((A.1 of.toNat).1) ((A.1 of.toNat).2.1) F (j * ((A.1 of.toNat).1) + i) σs → zW G M_X10_actAround (xQ B (sp_box A to of n)) 83 [some (.ref B), some (vi to), some (vi of), some (vi n), some (vi 0), some (.ref (zpa B of.toNat)), some (vi j), some (vi i), none] [] (zxS B, σs, τ) := by
          intro fm
          induction fm with
          | zero => intro i σs h3 h4 h5; omega
          | succ fm ihm =>
            intro i σs h3 h4 h5 hl
            have hpw := hl.pw (by omega) (by omega)
            have hw1 := hl.2.2.1
            have hw2 := hl.2.2.2.1
            have hsr := hs1.tr hl.1
            have hrs := hr1 σs hl.1
            refine zw_iload 85 rfl dX10_actAround_83 rfl ?_
            refine zw_aload 87 rfl dX10_actAround_85 rfl ?_
            refine zw_geti 90 rfl dX10_actAround_87 fl_X10_148 hq6.1 ?_
            rw [hrs.1]
            refine zw_icmp_ge 141 93 rfl dX10_actAround_90 (by decide) (by omega) (by omega) (fun h_90 => ?_) (fun h_90 => ?_)
            · refine zw_iinc 144 rfl dX10_actAround_141 (Nat.le_of_ble_eq_true rfl) rfl rfl ?_
              refine zw_goto 70 dX10_actAround_144 (by decide) ?_
              refine zw_drop 7 ?_
              exact ih (j + 1) _ (by omega) (by omega) (by rw [Int.add_mul, Int.one_mul, show (A.1 of.toNat).1 = i by omega]; rw [show (A.1 of.toNat).1 = i by omega] at hl; exact hl)
            · refine zw_aload_n 94 rfl dX10_actAround_93 rfl ?_
              refine zw_aload 96 rfl dX10_actAround_94 rfl ?_
              refine zw_iload 98 rfl dX10_actAround_96 rfl ?_
              refine zw_iload 100 rfl dX10_actAround_98 rfl ?_
              refine zw_iload_n 101 rfl dX10_actAround_100 rfl ?_
              refine zw_cVi4 104 rfl dX10_actAround_101 kX10_actAround_324 (Nat.le_of_ble_eq_true rfl) (by first | assumption | exact zx_o0 | exact zx_o _ _ _ rfl) (c_tallAround hq6 (hsr.P h.p of.toNat (by omega)) hc2.2 (by omega) (by omega) hc3 (by simp only [zpa]; omega)) ?_
              refine zw_astore 106 rfl dX10_actAround_104 (Nat.le_of_ble_eq_true rfl) rfl ?_
              refine zw_aload_n 107 rfl dX10_actAround_106 rfl ?_
              refine zw_getr 110 rfl dX10_actAround_107 fl_X10_16 (by first | assumption | exact zx_o0 | exact zx_o _ _ _ rfl) (by first | assumption | exact zx_f0 _ _ rfl | exact zx_f _ _ _ rfl) ?_
              refine zw_iload 112 rfl dX10_actAround_110 rfl ?_
              refine zw_iload 114 rfl dX10_actAround_112 rfl ?_
              refine zw_iload 116 rfl dX10_actAround_114 rfl ?_
              refine zw_if_eq 127 119 rfl dX10_actAround_116 (by decide) (by omega) (fun h_116 => ?_) (fun h_116 => ?_)
              · have hTT := hT σs i j (by omega) (by omega)
                generalize aTal (zT0 σs (B + 66)) (A.1 of.toNat) (i - n) (j - n) (2 * n + 1) (2 * n + 1) = T at hTT ⊢
                obtain ⟨⟨⟨q1, q2, q3⟩, ⟨q4, q5, q6⟩, q7⟩, q8⟩ := hTT
                have hl2 := hl.tal (T := T)
                refine zw_aload 129 rfl dX10_actAround_127 rfl ?_
                refine zw_cVi0 132 rfl dX10_actAround_129 kX10_actAround_313 (Nat.le_of_ble_eq_true rfl) (by first | assumption | exact zx_o0 | exact zx_o _ _ _ rfl) (c_mean zx_tal (by rw [(zTs_a _ _ (by omega)).1, q4]; omega) (by rw [(zTs_a _ _ (by omega)).2]; omega)) ?_
                rw [(zTs_a _ _ (by omega)).1, (zTs_a _ _ (by omega)).2, q1, q2, hF']
                refine zw_cVv3 135 rfl dX10_actAround_132 kX10_actAround_184 (Nat.le_of_ble_eq_true rfl) (by first | assumption | exact zx_o0 | exact zx_o _ _ _ rfl) (c_putShade zx_work (hl2.pw (by omega) (by omega)) (by omega) (by omega)) ?_
                rw [if_pos (by rw [zHas, hl2.2.2.1, hl2.2.2.2.1]; omega), hl2.2.2.1]
                refine zw_iinc 138 rfl dX10_actAround_135 (Nat.le_of_ble_eq_true rfl) rfl rfl ?_
                refine zw_goto 83 dX10_actAround_138 (by decide) ?_
                refine zw_drop 8 ?_
                exact ihm (i + 1) _ h3 (by omega) (by omega) (by rw [← Int.add_assoc]; exact hl2.put (by omega) (by omega))
              · exact absurd rfl h_116
        refine zw_iload 72 rfl dX10_actAround_70 rfl ?_
        refine zw_aload 74 rfl dX10_actAround_72 rfl ?_
        refine zw_geti 77 rfl dX10_actAround_74 fl_X10_151 hq6.1 ?_
        rw [(hr1 σs hl.1).2]
        refine zw_icmp_ge 147 80 rfl dX10_actAround_77 (by decide) (by omega) (by omega) (fun h_77 => ?_) (fun h_77 => ?_)
        · have hpic : xrPic σs (B + 2) (aBox (A.1 of.toNat) n) := by
            subst hF
            refine hl.pic (by rw [show j = (A.1 of.toNat).2.1 by omega]; exact Int.le_refl _) hwh.2.1 hwh.2.2 (fun a b ha hb => ?_)
            have hTT := hT σ a b ha hb
            have q1 := hTT.1.1
            have q2 := hTT.1.2.1
            have q3 := hTT.2
            rw [← q1.1, ← q1.2.1]
            exact znear_r q2.2.1.1 (by rw [q2.1]; omega) (by rw [q2.1]; exact q2.2.1.2)
          refine zw_aload_n 148 rfl dX10_actAround_147 rfl ?_
          refine zw_iload_n 149 rfl dX10_actAround_148 rfl ?_
          refine zw_iload_n 150 rfl dX10_actAround_149 rfl ?_
          refine zw_cVr2 153 rfl dX10_actAround_150 kX10_actAround_220 (Nat.le_of_ble_eq_true rfl) (by first | assumption | exact zx_o0 | exact zx_o _ _ _ rfl) (c_actCO ((hs1.tr hl.1).P h.p) ((hs1.tr hl.1).H h.hs) hpic hc1 hc2.1 hc2.2 rfl rfl) ?_
          rintro _ _ ⟨rfl, σ2, rfl, hA⟩
          exact zw_iret (st := []) dX10_actAround_153 rfl (xGood (σ := σ) (τ := τ) (by simp only [if_pos hc1, if_pos hc2, if_pos hc3]) rfl (h.act (hs1.tr hl.1) rfl (hl.2.1.trans h17) hA (by omega)))
        · refine zw_iconst 81 rfl dX10_actAround_80 ?_
          refine zw_istore 83 rfl dX10_actAround_81 (Nat.le_of_ble_eq_true rfl) rfl ?_
          exact inner ((A.1 of.toNat).1.toNat + 1) 0 _ (by omega) (by omega) (by omega) (by rw [Int.add_zero]; exact hl)
    refine zw_aload_n 43 rfl dX10_actAround_42 rfl ?_
    refine zw_getr 46 rfl dX10_actAround_43 fl_X10_11 (by first | assumption | exact zx_o0 | exact zx_o _ _ _ rfl) (by first | assumption | exact zx_f0 _ _ rfl | exact zx_f _ _ _ rfl) ?_
    refine zw_iload_n 47 rfl dX10_actAround_46 rfl ?_
    refine zw_aald 48 rfl dX10_actAround_47 (by first | assumption | exact zx_o0 | exact zx_o _ _ _ rfl) (by omega) (by omega) (by first | assumption | exact zx_p6r (by omega)) ?_
    refine zw_astore 50 rfl dX10_actAround_48 (Nat.le_of_ble_eq_true rfl) rfl ?_
    refine zw_aload_n 51 rfl dX10_actAround_50 rfl ?_
    refine zw_getr 54 rfl dX10_actAround_51 fl_X10_16 (by first | assumption | exact zx_o0 | exact zx_o _ _ _ rfl) (by first | assumption | exact zx_f0 _ _ rfl | exact zx_f _ _ _ rfl) ?_
    refine zw_aload 56 rfl dX10_actAround_54 rfl ?_
    refine zw_geti 59 rfl dX10_actAround_56 fl_X10_148 hq6.1 ?_
    refine zw_aload 61 rfl dX10_actAround_59 rfl ?_
    refine zw_geti 64 rfl dX10_actAround_61 fl_X10_151 hq6.1 ?_
    rw [(hr1 σ1 xScr.rf).1, (hr1 σ1 xScr.rf).2]
    refine zw_cVv2 67 rfl dX10_actAround_64 kX10_actAround_194 (Nat.le_of_ble_eq_true rfl) (by first | assumption | exact zx_o0 | exact zx_o _ _ _ rfl) (c_resize (zx_o 2 5 0 rfl) (by omega) (by omega)) ?_
    refine zw_iconst 68 rfl dX10_actAround_67 ?_
    refine zw_istore 70 rfl dX10_actAround_68 (Nat.le_of_ble_eq_true rfl) rfl ?_
    rw [zhold_in (by omega), zhold_in (by omega)]
    exact outer ((A.1 of.toNat).2.1.toNat + 1) 0 _ (by omega) (by omega) (by rw [Int.zero_mul]; exact xLI.start)
  have J : ∀ v : Int, v = (if aPl to then if aTold A of then if 0 ≤ n ∧ n ≤ 4 then 0 else 2 else 1 else 1) → zW G M_X10_actAround (xQ B (sp_box A to of n)) 34 [some (.ref B), some (vi to), some (vi of), some (vi n), some (vi 0), none, none, none, none] [vi v, .ref B] (zxS B, σ, τ) := by
    intro v hv

    refine zw_cVi1 37 rfl dX10_actAround_34 kX10_actAround_105 (Nat.le_of_ble_eq_true rfl) (by first | assumption | exact zx_o0 | exact zx_o _ _ _ rfl) (c_refused (by rw [hv]; (repeat' split) <;> omega)) ?_
    refine zw_if_eqB 42 40 rfl dX10_actAround_37 (by decide) (fun h_37 => ?_) (fun h_37 => ?_)
    · have hc1 : aPl to := Decidable.byContradiction fun q => by rw [if_neg q] at hv; (try split at hv) <;> omega
      rw [if_pos hc1] at hv
      have hc2 : aTold A of := Decidable.byContradiction fun q => by rw [if_neg q] at hv; (try split at hv) <;> omega
      rw [if_pos hc2] at hv
      have hc3 : 0 ≤ n ∧ n ≤ 4 := Decidable.byContradiction fun q => by rw [if_neg q] at hv; (try split at hv) <;> omega
      rw [if_pos hc3] at hv
      subst hv
      exact body hc1 hc2 hc3
    · refine zw_iconst 41 rfl dX10_actAround_40 ?_
      subst hv
      exact zw_iret (st := []) dX10_actAround_41 rfl (xRef h h_37 (by (repeat' split) <;> omega))
  refine zw_aload_n 1 rfl dX10_actAround_0 rfl ?_
  refine zw_iload_n 2 rfl dX10_actAround_1 rfl ?_
  refine zw_cSi1 5 rfl dX10_actAround_2 kX10_actAround_191 (Nat.le_of_ble_eq_true rfl) (c_isPlace hto) ?_
  refine zw_if_eqB 16 8 rfl dX10_actAround_5 (by decide) (fun h_5 => ?_) (fun h_5 => ?_)
  · refine zw_iconst 17 rfl dX10_actAround_16 ?_
    refine zw_goto 34 dX10_actAround_17 (by decide) ?_
    exact J _ (by simp only [if_neg h_5])
  · refine zw_aload_n 9 rfl dX10_actAround_8 rfl ?_
    refine zw_iload_n 10 rfl dX10_actAround_9 rfl ?_
    refine zw_cVi1 13 rfl dX10_actAround_10 kX10_actAround_145 (Nat.le_of_ble_eq_true rfl) (by first | assumption | exact zx_o0 | exact zx_o _ _ _ rfl) (c_told h.p hof) ?_
    refine zw_if_neB 20 16 rfl dX10_actAround_13 (by decide) (fun h_13 => ?_) (fun h_13 => ?_)
    · refine zw_iload_n 21 rfl dX10_actAround_20 rfl ?_
      refine zw_iconst 22 rfl dX10_actAround_21 ?_
      refine zw_iconst 23 rfl dX10_actAround_22 ?_
      refine zw_cSi3 26 rfl dX10_actAround_23 kX10_actAround_101 (Nat.le_of_ble_eq_true rfl) (c_within (by omega) (by omega) (by omega)) ?_
      refine zw_if_neB 33 29 rfl dX10_actAround_26 (by decide) (fun h_26 => ?_) (fun h_26 => ?_)
      · refine zw_iconst 34 rfl dX10_actAround_33 ?_
        exact J _ (by simp only [if_pos h_5, if_pos h_13, if_pos h_26])
      · refine zw_iconst 30 rfl dX10_actAround_29 ?_
        refine zw_goto 34 dX10_actAround_30 (by decide) ?_
        exact J _ (by simp only [if_pos h_5, if_pos h_13, if_neg h_26])
    · refine zw_iconst 17 rfl dX10_actAround_16 ?_
      refine zw_goto 34 dX10_actAround_17 (by decide) ?_
      exact J _ (by simp only [if_pos h_5, if_neg h_13])
theorem X_box {G : zG} {B : Nat} {σ τ : zSt} {A : zA} {to of n : Int} (h : zxR B σ τ A) (hto : -2147483648 ≤ to ∧ to ≤ 2147483647) (hof : -2147483648 ≤ of ∧ of ≤ 2147483647) (hn : -2147483648 ≤ n ∧ n ≤ 2147483647) : zC G M_X10_box [.ref B, vi to, vi of, vi n] (zxS B, σ, τ) (xQ B (sp_box A to of n)) := by
  refine zC_of 0 rfl (Nat.le_of_ble_eq_true rfl) ?_
  refine zw_aload_n 1 rfl dX10_box_0 rfl ?_
  refine zw_iload_n 2 rfl dX10_box_1 rfl ?_
  refine zw_iload_n 3 rfl dX10_box_2 rfl ?_
  refine zw_iload_n 4 rfl dX10_box_3 rfl ?_
  refine zw_iconst 5 rfl dX10_box_4 ?_
  refine zw_cVr4 8 rfl dX10_box_5 kX10_box_299 (Nat.le_of_ble_eq_true rfl) (by first | assumption | exact zx_o0 | exact zx_o _ _ _ rfl) (c_around0 h hto hof hn) ?_
  rintro _ _ ⟨rfl, hq⟩
  exact zw_iret (st := []) dX10_box_8 rfl ⟨rfl, hq⟩
