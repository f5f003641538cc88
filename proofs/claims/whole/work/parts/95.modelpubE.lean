/-! ===== windows ===== -/
theorem zfold_clip {α : Type} (f : Int → α → α) (x0 lo hi : Int) : ∀ (n : Nat) (a : α), zfold (fun (i : Nat) m => if lo ≤ x0 + i ∧ x0 + i < hi then f (x0 + i) m else m) n a = zfold (fun (i : Nat) => f (zmx lo x0 + i)) (zmn (x0 + n) hi - zmx lo x0).toNat a
  | 0, a => by
    rw [show (zmn (x0 + (0 : Nat)) hi - zmx lo x0).toNat = 0 by unfold zmn zmx; (repeat' split) <;> omega]
    rfl
  | n + 1, a => by
    show (if lo ≤ x0 + (n : Int) ∧ x0 + (n : Int) < hi then f (x0 + n) (zfold _ n a) else zfold _ n a) = _
    rw [zfold_clip f x0 lo hi n a]
    by_cases h : lo ≤ x0 + (n : Int) ∧ x0 + (n : Int) < hi
    · rw [if_pos h]
      have e : (zmn (x0 + ((n + 1 : Nat) : Int)) hi - zmx lo x0).toNat = (zmn (x0 + n) hi - zmx lo x0).toNat + 1 := by unfold zmn zmx; (repeat' split) <;> omega
      rw [e]
      show _ = f (zmx lo x0 + ((zmn (x0 + n) hi - zmx lo x0).toNat : Nat)) _
      rw [show zmx lo x0 + (((zmn (x0 + n) hi - zmx lo x0).toNat : Nat) : Int) = x0 + n by unfold zmn zmx; (repeat' split) <;> omega]
    · rw [if_neg h]
      rw [show (zmn (x0 + ((n + 1 : Nat) : Int)) hi - zmx lo x0).toNat = (zmn (x0 + n) hi - zmx lo x0).toNat by unfold zmn zmx; (repeat' split) <;> omega]
theorem zfold_id {α : Type} : ∀ (n : Nat) (a : α), zfold (fun _ m => m) n a = a
  | 0, _ => rfl
  | n + 1, a => zfold_id n a
theorem zwin_clip {α : Type} (f : Int → Int → α → α) {x0 y0 u v w h : Int} (hu : 0 ≤ u) (hv : 0 ≤ v) (m0 : α) : zwin 0 u 0 v (fun a b m => if (0 ≤ x0 + a ∧ x0 + a < w) ∧ 0 ≤ y0 + b ∧ y0 + b < h then f (x0 + a) (y0 + b) m else m) m0 = zwin (zmx 0 x0) (zmn (x0 + u) w) (zmx 0 y0) (zmn (y0 + v) h) f m0 := by
  rw [zpt_e]
  unfold zpt zwin
  show zfold (fun (j : Nat) => zfold (fun (i : Nat) m => if (0 ≤ x0 + (i : Int) ∧ x0 + (i : Int) < w) ∧ 0 ≤ y0 + (j : Int) ∧ y0 + (j : Int) < h then f (x0 + i) (y0 + j) m else m) u.toNat) v.toNat m0 = _
  rw [zfold_cong (g := fun (j : Nat) m => if 0 ≤ y0 + (j : Int) ∧ y0 + (j : Int) < h then zfold (fun (i : Nat) => f (zmx 0 x0 + i) (y0 + j)) (zmn (x0 + u) w - zmx 0 x0).toNat m else m)]
  · have := zfold_clip (fun y => zfold (fun (i : Nat) => f (zmx 0 x0 + i) y) (zmn (x0 + u) w - zmx 0 x0).toNat) y0 0 h v.toNat m0
    rw [show y0 + ((v.toNat : Nat) : Int) = y0 + v by omega] at this
    exact this
  · intro j b hj
    by_cases e : 0 ≤ y0 + (j : Int) ∧ y0 + (j : Int) < h
    · rw [if_pos e]
      have := zfold_clip (fun x => f x (y0 + j)) x0 0 w u.toNat b
      rw [show x0 + ((u.toNat : Nat) : Int) = x0 + u by omega] at this
      rw [← this]
      refine zfold_cong _ _ (fun i c hi => ?_)
      by_cases e2 : 0 ≤ x0 + (i : Int) ∧ x0 + (i : Int) < w
      · rw [if_pos ⟨e2, e⟩, if_pos e2]
      · rw [if_neg (fun q => e2 q.1), if_neg e2]
    · rw [if_neg e, zfold_cong (g := fun _ m => m), zfold_id]
      intro i c hi
      rw [if_neg (fun q => e q.2)]
theorem aWS_r {p : zPc} {x y u v : Int} (hd : aDots p) : 0 ≤ aWS p x y u v ∧ aWS p x y u v ≤ 255 * aWC p x y u v := by
  unfold aWS aWC aWin
  refine zwin_rel (fun (s c : Int) => 0 ≤ s ∧ s ≤ 255 * c) (by omega) (fun a b s c ha hb h => ?_)
  have := hd a b (zz_clip ha) (zz_clip hb)
  omega
theorem aWC_r {p : zPc} {x y a b n : Int} (hw : (1 ≤ p.1 ∧ p.1 ≤ 16) ∧ 1 ≤ p.2.1 ∧ p.2.1 ≤ 12) (ha : 0 ≤ a ∧ a < p.1) (hb : 0 ≤ b ∧ b < p.2.1) (hx : x ≤ a ∧ a < x + n) (hy : y ≤ b ∧ b < y + n) : 1 ≤ aWC p x y n n ∧ aWC p x y n n ≤ 192 := by
  have h1 := zz_win hw.1 hw.2 ha hb hx hy
  have h2 : aWC p x y n n = (((zmn (y + n) p.2.1 - zmx 0 y).toNat * (zmn (x + n) p.1 - zmx 0 x).toNat : Nat) : Int) := zwin_ind (f := fun _ _ (m : Int) => m + 1) (x0 := zmx 0 x) (x1 := zmn (x + n) p.1) (y0 := zmx 0 y) (y1 := zmn (y + n) p.2.1) (fun (k : Nat) (m : Int) => m = (k : Int)) rfl (fun k _ _ b _ _ hb => by rw [hb]; rfl)
  omega
/-! ===== box ===== -/
theorem m_meanOf {G : zG} {C : Nat} {σ τ : zSt} {P : Nat → zPc} {of x y n : Int} (hP : mrP (σ (C + 9)) 0 P) (ht : aPl of ∧ 0 < (P of.toNat).1) (hx : 0 ≤ x ∧ x < (P of.toNat).1) (hy : 0 ≤ y ∧ y < (P of.toNat).2.1) (hn : 0 ≤ n ∧ n ≤ 4) : zC G M_X11_meanOf [.ref C, vi of, vi x, vi y, vi n] (zmS C, σ, τ) (zR (some (vi (znear (aWS (P of.toNat) (x - n) (y - n) (2 * n + 1) (2 * n + 1)) (aWC (P of.toNat) (x - n) (y - n) (2 * n + 1) (2 * n + 1))))) (zmS C, σ, τ)) := by
  have hq := hP.pc ht
  have hw := hq.wh
  have r1 := aWS_r (x := x - n) (y := y - n) (u := 2 * n + 1) (v := 2 * n + 1) hq.dots
  have r2 := aWC_r (x := x - n) (y := y - n) (n := 2 * n + 1) hw hx hy (by omega) (by omega)
  refine zC_of 6 rfl (Nat.le_of_ble_eq_true rfl) ?_
  generalize hS : aWS (P of.toNat) (x - n) (y - n) (2 * n + 1) (2 * n + 1) = S at *
  generalize hT : aWC (P of.toNat) (x - n) (y - n) (2 * n + 1) (2 * n + 1) = T at *
  unfold aWS aWin at hS
  unfold aWC aWin at hT
  rw [← zwin_clip _ (by omega) (by omega), zpt_e] at hS hT
  generalize hF : (fun (a b m : Int) => if (0 ≤ x - n + a ∧ x - n + a < (P of.toNat).1) ∧ 0 ≤ y - n + b ∧ y - n + b < (P of.toNat).2.1 then m + (P of.toNat).2.2 (x - n + a) (y - n + b) else m) = F at hS
  generalize hK : (fun (a b m : Int) => if (0 ≤ x - n + a ∧ x - n + a < (P of.toNat).1) ∧ 0 ≤ y - n + b ∧ y - n + b < (P of.toNat).2.1 then m + 1 else m) = K at hT
  have hF' : ∀ a b m, F a b m = if (0 ≤ x - n + a ∧ x - n + a < (P of.toNat).1) ∧ 0 ≤ y - n + b ∧ y - n + b < (P of.toNat).2.1 then m + (P of.toNat).2.2 (x - n + a) (y - n + b) else m := fun a b m => by rw [← hF]
  have hK' : ∀ a b m, K a b m = if (0 ≤ x - n + a ∧ x - n + a < (P of.toNat).1) ∧ 0 ≤ y - n + b ∧ y - n + b < (P of.toNat).2.1 then m + 1 else m := fun a b m => by rw [← hK]
  have key : zW G M_X11_meanOf (zR (some (vi (znear S T))) (zmS C, σ, τ)) 12 [some (.ref C), some (vi of), some (vi x), some (vi y), some (vi n), some (vl (zpt (2 * n + 1) F 0 0 0)), none, some (vl (zpt (2 * n + 1) K 0 0 0)), none, some (vi (y - n + (0 : Nat))), none] [] (zmS C, σ, τ) := by
    refine zrows (w := (2 * n + 1).toNat) (h := (2 * n + 1).toNat) (O := fun j => zW G M_X11_meanOf (zR (some (vi (znear S T))) (zmS C, σ, τ)) 12 [some (.ref C), some (vi of), some (vi x), some (vi y), some (vi n), some (vl (zpt (2 * n + 1) F 0 j 0)), none, some (vl (zpt (2 * n + 1) K 0 j 0)), none, some (vi (y - n + j)), none] [] (zmS C, σ, τ)) (N := fun j i => zW G M_X11_meanOf (zR (some (vi (znear S T))) (zmS C, σ, τ)) 27 [some (.ref C), some (vi of), some (vi x), some (vi y), some (vi n), some (vl (zpt (2 * n + 1) F 0 j i)), none, some (vl (zpt (2 * n + 1) K 0 j i)), none, some (vi (y - n + j)), some (vi (x - n + i))] [] (zmS C, σ, τ)) ?_ ?_ ?_ ?_
    · refine zw_iload 14 rfl dX11_meanOf_12 rfl ?_
      refine zw_iload_n 15 rfl dX11_meanOf_14 rfl ?_
      refine zw_iload 17 rfl dX11_meanOf_15 rfl ?_
      refine zw_iadd 18 rfl dX11_meanOf_17 ?_
      refine zw_icmp_gt 84 21 rfl dX11_meanOf_18 (by decide) (by omega) (by omega) (fun h_18 => ?_) (fun h_18 => ?_)
      · rw [hS, hT]
        refine zw_lload 86 rfl dX11_meanOf_84 rfl ?_
        refine zw_lload 88 rfl dX11_meanOf_86 rfl ?_
        refine zw_cSi2 91 rfl dX11_meanOf_88 kX11_meanOf_295 (Nat.le_of_ble_eq_true rfl) (m_nearest (by omega) (by omega)) ?_
        exact zw_iretR dX11_meanOf_91 rfl rfl rfl
      · omega
    · intro j hj hN
      refine zw_iload 14 rfl dX11_meanOf_12 rfl ?_
      refine zw_iload_n 15 rfl dX11_meanOf_14 rfl ?_
      refine zw_iload 17 rfl dX11_meanOf_15 rfl ?_
      refine zw_iadd 18 rfl dX11_meanOf_17 ?_
      refine zw_icmp_gt 84 21 rfl dX11_meanOf_18 (by decide) (by omega) (by omega) (fun h_18 => ?_) (fun h_18 => ?_)
      · omega
      · refine zw_iload_n 22 rfl dX11_meanOf_21 rfl ?_
        refine zw_iload 24 rfl dX11_meanOf_22 rfl ?_
        refine zw_isub 25 rfl dX11_meanOf_24 ?_
        refine zw_istore 27 rfl dX11_meanOf_25 (Nat.le_of_ble_eq_true rfl) rfl ?_
        rw [show x - n + ((0 : Nat) : Int) = x - n by omega] at hN
        exact hN
    · intro j i hj hi hN
      refine zw_iload 29 rfl dX11_meanOf_27 rfl ?_
      refine zw_iload_n 30 rfl dX11_meanOf_29 rfl ?_
      refine zw_iload 32 rfl dX11_meanOf_30 rfl ?_
      refine zw_iadd 33 rfl dX11_meanOf_32 ?_
      refine zw_icmp_gt 78 36 rfl dX11_meanOf_33 (by decide) (by omega) (by omega) (fun h_33 => ?_) (fun h_33 => ?_)
      · omega
      · refine zw_aload_n 37 rfl dX11_meanOf_36 rfl ?_
        refine zw_iload_n 38 rfl dX11_meanOf_37 rfl ?_
        refine zw_iload 40 rfl dX11_meanOf_38 rfl ?_
        refine zw_iload 42 rfl dX11_meanOf_40 rfl ?_
        refine zw_cVi3 45 rfl dX11_meanOf_42 kX11_meanOf_190 (Nat.le_of_ble_eq_true rfl) (by first | assumption | exact zm_o0 | exact zm_o _ _ _ rfl) (m_isDot hP (by omega) (by omega) (by omega)) ?_
        refine zw_if_neB 51 48 rfl dX11_meanOf_45 (by decide) (fun h_45 => ?_) (fun h_45 => ?_)
        · have hdd := hq.d h_45.2.1 h_45.2.2
          refine zw_lload 53 rfl dX11_meanOf_51 rfl ?_
          refine zw_aload_n 54 rfl dX11_meanOf_53 rfl ?_
          refine zw_iload_n 55 rfl dX11_meanOf_54 rfl ?_
          refine zw_iload 57 rfl dX11_meanOf_55 rfl ?_
          refine zw_iload 59 rfl dX11_meanOf_57 rfl ?_
          refine zw_cVi3 62 rfl dX11_meanOf_59 kX11_meanOf_182 (Nat.le_of_ble_eq_true rfl) (by first | assumption | exact zm_o0 | exact zm_o _ _ _ rfl) (m_dotP hq h_45.2.1 h_45.2.2) ?_
          refine zw_i2l 63 rfl dX11_meanOf_62 (by omega) ?_
          refine zw_ladd 64 rfl dX11_meanOf_63 ?_
          refine zw_lstore 66 rfl dX11_meanOf_64 (Nat.le_of_ble_eq_true rfl) rfl ?_
          refine zw_lload 68 rfl dX11_meanOf_66 rfl ?_
          refine zw_lconst 69 rfl dX11_meanOf_68 ?_
          refine zw_ladd 70 rfl dX11_meanOf_69 ?_
          refine zw_lstore 72 rfl dX11_meanOf_70 (Nat.le_of_ble_eq_true rfl) rfl ?_
          refine zw_iinc 75 rfl dX11_meanOf_72 (Nat.le_of_ble_eq_true rfl) rfl rfl ?_
          refine zw_goto 27 dX11_meanOf_75 (by decide) ?_
          rw [zpt_s, zpt_s, hF', hK', show x - n + ((i + 1 : Nat) : Int) = x - n + i + 1 by omega] at hN
          first | (rw [if_pos h_45.2, if_pos h_45.2] at hN; exact hN) | (rw [if_neg (fun q => h_45 ⟨ht, q⟩), if_neg (fun q => h_45 ⟨ht, q⟩)] at hN; exact hN)
        · refine zw_goto 72 dX11_meanOf_48 (by decide) ?_
          refine zw_iinc 75 rfl dX11_meanOf_72 (Nat.le_of_ble_eq_true rfl) rfl rfl ?_
          refine zw_goto 27 dX11_meanOf_75 (by decide) ?_
          rw [zpt_s, zpt_s, hF', hK', show x - n + ((i + 1 : Nat) : Int) = x - n + i + 1 by omega] at hN
          first | (rw [if_pos h_45.2, if_pos h_45.2] at hN; exact hN) | (rw [if_neg (fun q => h_45 ⟨ht, q⟩), if_neg (fun q => h_45 ⟨ht, q⟩)] at hN; exact hN)
    · intro j hj hO
      refine zw_iload 29 rfl dX11_meanOf_27 rfl ?_
      refine zw_iload_n 30 rfl dX11_meanOf_29 rfl ?_
      refine zw_iload 32 rfl dX11_meanOf_30 rfl ?_
      refine zw_iadd 33 rfl dX11_meanOf_32 ?_
      refine zw_icmp_gt 78 36 rfl dX11_meanOf_33 (by decide) (by omega) (by omega) (fun h_33 => ?_) (fun h_33 => ?_)
      · refine zw_iinc 81 rfl dX11_meanOf_78 (Nat.le_of_ble_eq_true rfl) rfl rfl ?_
        refine zw_goto 12 dX11_meanOf_81 (by decide) ?_
        refine zw_drop 10 ?_
        rw [show y - n + ((j + 1 : Nat) : Int) = y - n + j + 1 by omega] at hO
        exact hO
      · omega
  refine zw_lconst 1 rfl dX11_meanOf_0 ?_
  refine zw_lstore 3 rfl dX11_meanOf_1 (Nat.le_of_ble_eq_true rfl) rfl ?_
  refine zw_lconst 4 rfl dX11_meanOf_3 ?_
  refine zw_lstore 6 rfl dX11_meanOf_4 (Nat.le_of_ble_eq_true rfl) rfl ?_
  refine zw_iload_n 7 rfl dX11_meanOf_6 rfl ?_
  refine zw_iload 9 rfl dX11_meanOf_7 rfl ?_
  refine zw_isub 10 rfl dX11_meanOf_9 ?_
  refine zw_istore 12 rfl dX11_meanOf_10 (Nat.le_of_ble_eq_true rfl) rfl ?_
  rw [show y - n + ((0 : Nat) : Int) = y - n by omega] at key
  exact key
theorem Y_box {G : zG} {C : Nat} {σ τ : zSt} {A : zA} {to of n : Int} (h : zmR C σ τ A) (hto : -2147483648 ≤ to ∧ to ≤ 2147483647) (hof : -2147483648 ≤ of ∧ of ≤ 2147483647) (hn : -2147483648 ≤ n ∧ n ≤ 2147483647) : zC G M_X11_box [.ref C, vi to, vi of, vi n] (zmS C, σ, τ) (mQ C (sp_box A to of n)) := by
  have hP := (mThrown (v := 0)).P h.p
  refine zC_of 2 rfl (Nat.le_of_ble_eq_true rfl) ?_
  by_cases hc : aPl to ∧ aTold A of ∧ 0 ≤ n ∧ n ≤ 4
  · obtain ⟨hc1, hc2, hc3⟩ := hc
    have hq := h.p.pc hc2
    have hq1 := hP.pc hc2
    have hw := hq.wh
    have key : ∀ σs : zSt, mNw C σ ((A.1 of.toNat).1) ((A.1 of.toNat).1) ((A.1 of.toNat).2.1) ((aBox (A.1 of.toNat) n).2.2) mAt 0 0 σs → zW G M_X11_box (mQ C (sp_box A to of n)) 60 [some (.ref C), some (vi to), some (vi of), some (vi n), some (vi (0 : Nat)), none] [] (zmS C, σs, τ) := by
      refine zrows (w := ((A.1 of.toNat).1).toNat) (h := ((A.1 of.toNat).2.1).toNat) (O := fun j => ∀ σs : zSt, mNw C σ ((A.1 of.toNat).1) ((A.1 of.toNat).1) ((A.1 of.toNat).2.1) ((aBox (A.1 of.toNat) n).2.2) mAt j 0 σs → zW G M_X11_box (mQ C (sp_box A to of n)) 60 [some (.ref C), some (vi to), some (vi of), some (vi n), some (vi j), none] [] (zmS C, σs, τ)) (N := fun j i => ∀ σs : zSt, mNw C σ ((A.1 of.toNat).1) ((A.1 of.toNat).1) ((A.1 of.toNat).2.1) ((aBox (A.1 of.toNat) n).2.2) mAt j i σs → zW G M_X11_box (mQ C (sp_box A to of n)) 73 [some (.ref C), some (vi to), some (vi of), some (vi n), some (vi j), some (vi i)] [] (zmS C, σs, τ)) ?_ ?_ ?_ ?_
      · intro σs hl
        have hpic := hl.pic (by omega) (by omega) (by omega) (fun x y hx hy => by
          have r1 := aWS_r (x := x - n) (y := y - n) (u := 2 * n + 1) (v := 2 * n + 1) hq.dots
          have r2 := aWC_r (x := x - n) (y := y - n) (n := 2 * n + 1) hw hx hy (by omega) (by omega)
          exact znear_r (m := 255) (by omega) (by omega) (by omega))
        refine zw_iload 62 rfl dX11_box_60 rfl ?_
        refine zw_aload_n 63 rfl dX11_box_62 rfl ?_
        refine zw_iload_n 64 rfl dX11_box_63 rfl ?_
        refine zw_cVi1 67 rfl dX11_box_64 kX11_box_176 (Nat.le_of_ble_eq_true rfl) (by first | assumption | exact zm_o0 | exact zm_o _ _ _ rfl) (m_highP (hq.s (by omega) hl.1)) ?_
        refine zw_icmp_ge 115 70 rfl dX11_box_67 (by decide) (by omega) (by omega) (fun h_67 => ?_) (fun h_67 => ?_)
        · refine zw_aload_n 116 rfl dX11_box_115 rfl ?_
          refine zw_iload_n 117 rfl dX11_box_116 rfl ?_
          refine zw_cVi1 120 rfl dX11_box_117 kX11_box_213 (Nat.le_of_ble_eq_true rfl) (by first | assumption | exact zm_o0 | exact zm_o _ _ _ rfl) (m_others (hq.s (by omega) hl.1) (hpic.n (by show 0 < (A.1 of.toNat).1; omega)) rfl rfl) ?_
          refine zw_istore 122 rfl dX11_box_120 (Nat.le_of_ble_eq_true rfl) rfl ?_
          refine zw_aload_n 123 rfl dX11_box_122 rfl ?_
          refine zw_iload_n 124 rfl dX11_box_123 rfl ?_
          refine zw_cVr1 127 rfl dX11_box_124 kX11_box_203 (Nat.le_of_ble_eq_true rfl) (by first | assumption | exact zm_o0 | exact zm_o _ _ _ rfl) (m_becomes (hl.1.s.P h.p) (hl.1.s.H h.hs) hpic hc1) ?_
          rintro _ _ ⟨rfl, σ2, rfl, hA⟩
          refine zw_aload_n 128 rfl dX11_box_127 rfl ?_
          refine zw_iload 130 rfl dX11_box_128 rfl ?_
          refine zw_cVi1 133 rfl dX11_box_130 kX11_box_157 (Nat.le_of_ble_eq_true rfl) (by first | assumption | exact zm_o0 | exact zm_o _ _ _ rfl) m_good ?_
          exact zw_iret (st := []) dX11_box_133 rfl (mAct h hl.1.s mScT.rf hA (by simp only [if_pos hc1, if_pos hc2, if_pos hc3]))
        · omega
      · intro j hj hN
        intro σs hl
        refine zw_iload 62 rfl dX11_box_60 rfl ?_
        refine zw_aload_n 63 rfl dX11_box_62 rfl ?_
        refine zw_iload_n 64 rfl dX11_box_63 rfl ?_
        refine zw_cVi1 67 rfl dX11_box_64 kX11_box_176 (Nat.le_of_ble_eq_true rfl) (by first | assumption | exact zm_o0 | exact zm_o _ _ _ rfl) (m_highP (hq.s (by omega) hl.1)) ?_
        refine zw_icmp_ge 115 70 rfl dX11_box_67 (by decide) (by omega) (by omega) (fun h_67 => ?_) (fun h_67 => ?_)
        · omega
        · refine zw_iconst 71 rfl dX11_box_70 ?_
          refine zw_istore 73 rfl dX11_box_71 (Nat.le_of_ble_eq_true rfl) rfl ?_
          exact hN σs hl
      · intro j i hj hi hN
        intro σs hl
        refine zw_iload 75 rfl dX11_box_73 rfl ?_
        refine zw_aload_n 76 rfl dX11_box_75 rfl ?_
        refine zw_iload_n 77 rfl dX11_box_76 rfl ?_
        refine zw_cVi1 80 rfl dX11_box_77 kX11_box_170 (Nat.le_of_ble_eq_true rfl) (by first | assumption | exact zm_o0 | exact zm_o _ _ _ rfl) (m_wideP (hq.s (by omega) hl.1)) ?_
        refine zw_icmp_ge 109 83 rfl dX11_box_80 (by decide) (by omega) (by omega) (fun h_80 => ?_) (fun h_80 => ?_)
        · omega
        · refine zw_aload_n 84 rfl dX11_box_83 rfl ?_
          refine zw_bipush 86 rfl dX11_box_84 rfl ?_
          refine zw_iload 88 rfl dX11_box_86 rfl ?_
          refine zw_iload 90 rfl dX11_box_88 rfl ?_
          refine zw_aload_n 91 rfl dX11_box_90 rfl ?_
          refine zw_iload_n 92 rfl dX11_box_91 rfl ?_
          refine zw_iload 94 rfl dX11_box_92 rfl ?_
          refine zw_iload 96 rfl dX11_box_94 rfl ?_
          refine zw_iload_n 97 rfl dX11_box_96 rfl ?_
          refine zw_cVi4 100 rfl dX11_box_97 kX11_box_306 (Nat.le_of_ble_eq_true rfl) (by first | assumption | exact zm_o0 | exact zm_o _ _ _ rfl) (m_meanOf (hl.1.s.P h.p) hc2 (by omega) (by omega) hc3) ?_
          refine zw_cVv4 103 rfl dX11_box_100 kX11_box_193 (Nat.le_of_ble_eq_true rfl) (by first | assumption | exact zm_o0 | exact zm_o _ _ _ rfl) (m_putsN (by omega) (by omega)) ?_
          refine zw_iinc 106 rfl dX11_box_103 (Nat.le_of_ble_eq_true rfl) rfl rfl ?_
          refine zw_goto 73 dX11_box_106 (by decide) ?_
          exact hN _ (hl.put1 (by omega) (by omega) (by omega) (by omega) (by omega) (rfl))
      · intro j hj hO
        intro σs hl
        refine zw_iload 75 rfl dX11_box_73 rfl ?_
        refine zw_aload_n 76 rfl dX11_box_75 rfl ?_
        refine zw_iload_n 77 rfl dX11_box_76 rfl ?_
        refine zw_cVi1 80 rfl dX11_box_77 kX11_box_170 (Nat.le_of_ble_eq_true rfl) (by first | assumption | exact zm_o0 | exact zm_o _ _ _ rfl) (m_wideP (hq.s (by omega) hl.1)) ?_
        refine zw_icmp_ge 109 83 rfl dX11_box_80 (by decide) (by omega) (by omega) (fun h_80 => ?_) (fun h_80 => ?_)
        · refine zw_iinc 112 rfl dX11_box_109 (Nat.le_of_ble_eq_true rfl) rfl rfl ?_
          refine zw_goto 60 dX11_box_112 (by decide) ?_
          refine zw_drop 5 ?_
          exact hO σs hl.row
        · omega
    refine zw_aload_n 1 rfl dX11_box_0 rfl ?_
    refine zw_iconst 2 rfl dX11_box_1 ?_
    refine zw_puti 5 rfl dX11_box_2 fp_X11_85 (by first | assumption | exact zm_o0 | exact zm_o _ _ _ rfl) ?_
    refine zw_iload_n 6 rfl dX11_box_5 rfl ?_
    refine zw_iconst 7 rfl dX11_box_6 ?_
    refine zw_iconst 8 rfl dX11_box_7 ?_
    refine zw_cSi3 11 rfl dX11_box_8 kX11_box_106 (Nat.le_of_ble_eq_true rfl) (m_in (by omega) (by omega) (by omega)) ?_
    refine zw_if_eqB 22 14 rfl dX11_box_11 (by decide) (fun h_11 => ?_) (fun h_11 => ?_)
    · first | exact absurd hc1 h_11 | exact absurd hc2 h_19
    · refine zw_aload_n 15 rfl dX11_box_14 rfl ?_
      refine zw_iload_n 16 rfl dX11_box_15 rfl ?_
      refine zw_cVi1 19 rfl dX11_box_16 kX11_box_173 (Nat.le_of_ble_eq_true rfl) (by first | assumption | exact zm_o0 | exact zm_o _ _ _ rfl) (m_isPicture hP hof) ?_
      refine zw_if_neB 28 22 rfl dX11_box_19 (by decide) (fun h_19 => ?_) (fun h_19 => ?_)
      · refine zw_iload_n 29 rfl dX11_box_28 rfl ?_
        refine zw_iconst 30 rfl dX11_box_29 ?_
        refine zw_iconst 31 rfl dX11_box_30 ?_
        refine zw_cSi3 34 rfl dX11_box_31 kX11_box_106 (Nat.le_of_ble_eq_true rfl) (m_in (by omega) (by omega) (by omega)) ?_
        refine zw_if_neB 43 37 rfl dX11_box_34 (by decide) (fun h_34 => ?_) (fun h_34 => ?_)
        · refine zw_aload_n 44 rfl dX11_box_43 rfl ?_
          refine zw_aload_n 45 rfl dX11_box_44 rfl ?_
          refine zw_iload_n 46 rfl dX11_box_45 rfl ?_
          refine zw_cVi1 49 rfl dX11_box_46 kX11_box_170 (Nat.le_of_ble_eq_true rfl) (by first | assumption | exact zm_o0 | exact zm_o _ _ _ rfl) (m_wideP hq1) ?_
          refine zw_aload_n 50 rfl dX11_box_49 rfl ?_
          refine zw_iload_n 51 rfl dX11_box_50 rfl ?_
          refine zw_cVi1 54 rfl dX11_box_51 kX11_box_176 (Nat.le_of_ble_eq_true rfl) (by first | assumption | exact zm_o0 | exact zm_o _ _ _ rfl) (m_highP hq1) ?_
          refine zw_cVv2 57 rfl dX11_box_54 kX11_box_200 (Nat.le_of_ble_eq_true rfl) (by first | assumption | exact zm_o0 | exact zm_o _ _ _ rfl) m_begins ?_
          refine zw_iconst 58 rfl dX11_box_57 ?_
          refine zw_istore 60 rfl dX11_box_58 (Nat.le_of_ble_eq_true rfl) rfl ?_
          exact key _ (mNw.start (mSc2.rf.u (by unfold mKey2 mKey; omega)))
        · exact absurd hc3 h_34
      · first | exact absurd hc1 h_11 | exact absurd hc2 h_19
  refine zw_aload_n 1 rfl dX11_box_0 rfl ?_
  refine zw_iconst 2 rfl dX11_box_1 ?_
  refine zw_puti 5 rfl dX11_box_2 fp_X11_85 (by first | assumption | exact zm_o0 | exact zm_o _ _ _ rfl) ?_
  refine zw_iload_n 6 rfl dX11_box_5 rfl ?_
  refine zw_iconst 7 rfl dX11_box_6 ?_
  refine zw_iconst 8 rfl dX11_box_7 ?_
  refine zw_cSi3 11 rfl dX11_box_8 kX11_box_106 (Nat.le_of_ble_eq_true rfl) (m_in (by omega) (by omega) (by omega)) ?_
  refine zw_if_eqB 22 14 rfl dX11_box_11 (by decide) (fun h_11 => ?_) (fun h_11 => ?_)
  · refine zw_aload_n 23 rfl dX11_box_22 rfl ?_
    refine zw_iconst 24 rfl dX11_box_23 ?_
    refine zw_cVi1 27 rfl dX11_box_24 kX11_box_147 (Nat.le_of_ble_eq_true rfl) (by first | assumption | exact zm_o0 | exact zm_o _ _ _ rfl) m_refused ?_
    exact zw_iret (st := []) dX11_box_27 rfl (mRef h mThrown mScT.rf (by simp only [if_neg h_11, if_true, if_false]) (by omega))
  · refine zw_aload_n 15 rfl dX11_box_14 rfl ?_
    refine zw_iload_n 16 rfl dX11_box_15 rfl ?_
    refine zw_cVi1 19 rfl dX11_box_16 kX11_box_173 (Nat.le_of_ble_eq_true rfl) (by first | assumption | exact zm_o0 | exact zm_o _ _ _ rfl) (m_isPicture hP hof) ?_
    refine zw_if_neB 28 22 rfl dX11_box_19 (by decide) (fun h_19 => ?_) (fun h_19 => ?_)
    · refine zw_iload_n 29 rfl dX11_box_28 rfl ?_
      refine zw_iconst 30 rfl dX11_box_29 ?_
      refine zw_iconst 31 rfl dX11_box_30 ?_
      refine zw_cSi3 34 rfl dX11_box_31 kX11_box_106 (Nat.le_of_ble_eq_true rfl) (m_in (by omega) (by omega) (by omega)) ?_
      refine zw_if_neB 43 37 rfl dX11_box_34 (by decide) (fun h_34 => ?_) (fun h_34 => ?_)
      · exact absurd ⟨h_11, h_19, h_34⟩ hc
      · refine zw_aload_n 38 rfl dX11_box_37 rfl ?_
        refine zw_iconst 39 rfl dX11_box_38 ?_
        refine zw_cVi1 42 rfl dX11_box_39 kX11_box_147 (Nat.le_of_ble_eq_true rfl) (by first | assumption | exact zm_o0 | exact zm_o _ _ _ rfl) m_refused ?_
        exact zw_iret (st := []) dX11_box_42 rfl (mRef h mThrown mScT.rf (by simp only [if_pos h_11, if_pos h_19, if_neg h_34, if_true, if_false]) (by omega))
    · refine zw_aload_n 23 rfl dX11_box_22 rfl ?_
      refine zw_iconst 24 rfl dX11_box_23 ?_
      refine zw_cVi1 27 rfl dX11_box_24 kX11_box_147 (Nat.le_of_ble_eq_true rfl) (by first | assumption | exact zm_o0 | exact zm_o _ _ _ rfl) m_refused ?_
      exact zw_iret (st := []) dX11_box_27 rfl (mRef h mThrown mScT.rf (by simp only [if_pos h_11, if_neg h_19, if_true, if_false]) (by omega))
/-! ===== stretch ===== -/
theorem aLeast_from {p : zPc} {a : Int} (ha : a ≤ 255) : zwin 0 p.1 0 p.2.1 (fun x y m => if p.2.2 x y < m then p.2.2 x y else m) a = if aLeast p < a then aLeast p else a := by
  unfold aLeast
  refine zwin_rel (fun (m m' : Int) => m = if m' < a then m' else a) (by split <;> omega) (fun x y m m' hx hy h => ?_)
  subst h
  (repeat' split) <;> omega
theorem aMost_from {p : zPc} {a : Int} (ha : 0 ≤ a) : zwin 0 p.1 0 p.2.1 (fun x y m => if m < p.2.2 x y then p.2.2 x y else m) a = if a < aMost p then aMost p else a := by
  unfold aMost
  refine zwin_rel (fun (m m' : Int) => m = if a < m' then m' else a) (by split <;> omega) (fun x y m m' hx hy h => ?_)
  subst h
  (repeat' split) <;> omega
theorem m_leastOf {G : zG} {C : Nat} {σ τ : zSt} {p : Int} {q : zPc} (h : mPc C σ p q) : zC G M_X11_endOf [.ref C, vi p, vi 0] (zmS C, σ, τ) (zR (some (vi (aLeast q))) (zmS C, σ, τ)) := by
  have hw := h.wh
  have d0 := h.d (x := 0) (y := 0) (by omega) (by omega)
  have hE : zwin 0 q.1 0 q.2.1 (fun x y m => if q.2.2 x y < m then q.2.2 x y else m) (q.2.2 0 0) = aLeast q := by
    rw [aLeast_from (by omega)]
    have := aLeast_le (p := q) (x := 0) (y := 0) (by omega) (by omega)
    split <;> omega
  refine zC_of 3 rfl (Nat.le_of_ble_eq_true rfl) ?_
  rw [← hE, zpt_e]
  have hr : ∀ j i : Nat, (j : Int) < q.2.1 → (i : Int) < q.1 → 0 ≤ zpt q.1 (fun x y m => if q.2.2 x y < m then q.2.2 x y else m) (q.2.2 0 0) j i ∧ zpt q.1 (fun x y m => if q.2.2 x y < m then q.2.2 x y else m) (q.2.2 0 0) j i ≤ 255 := fun j i hj hi => by
    unfold zpt
    refine zfold_ind (fun _ m => 0 ≤ m ∧ m ≤ 255) _ (zfold_ind (fun _ m => 0 ≤ m ∧ m ≤ 255) _ d0 (fun a b ha hb => zfold_ind (fun _ m => 0 ≤ m ∧ m ≤ 255) _ hb (fun c e hc he => ?_))) (fun a b ha hb => ?_)
    · have := h.d (x := c) (y := a) (by omega) (by omega)
      dsimp only; split <;> omega
    · have := h.d (x := a) (y := j) (by omega) (by omega)
      dsimp only; split <;> omega
  generalize hF : (fun (x y m : Int) => if q.2.2 x y < m then q.2.2 x y else m) = F at hr
  have hF' : ∀ x y m, F x y m = if q.2.2 x y < m then q.2.2 x y else m := fun x y m => by rw [← hF]
  have key : zW G M_X11_endOf (zR (some (vi (zpt q.1 F (q.2.2 0 0) q.2.1.toNat 0))) (zmS C, σ, τ)) 11 [some (.ref C), some (vi p), some (vi 0), some (vi (zpt q.1 F (q.2.2 0 0) 0 0)), some (vi (0 : Nat)), none] [] (zmS C, σ, τ) := by
    refine zrows (w := q.1.toNat) (h := q.2.1.toNat) (O := fun j => zW G M_X11_endOf (zR (some (vi (zpt q.1 F (q.2.2 0 0) q.2.1.toNat 0))) (zmS C, σ, τ)) 11 [some (.ref C), some (vi p), some (vi 0), some (vi (zpt q.1 F (q.2.2 0 0) j 0)), some (vi j), none] [] (zmS C, σ, τ)) (N := fun j i => zW G M_X11_endOf (zR (some (vi (zpt q.1 F (q.2.2 0 0) q.2.1.toNat 0))) (zmS C, σ, τ)) 24 [some (.ref C), some (vi p), some (vi 0), some (vi (zpt q.1 F (q.2.2 0 0) j i)), some (vi j), some (vi i)] [] (zmS C, σ, τ)) ?_ ?_ ?_ ?_
    · refine zw_iload 13 rfl dX11_endOf_11 rfl ?_
      refine zw_aload_n 14 rfl dX11_endOf_13 rfl ?_
      refine zw_iload_n 15 rfl dX11_endOf_14 rfl ?_
      refine zw_cVi1 18 rfl dX11_endOf_15 kX11_endOf_176 (Nat.le_of_ble_eq_true rfl) (by first | assumption | exact zm_o0 | exact zm_o _ _ _ rfl) (m_highP h) ?_
      refine zw_icmp_ge 89 21 rfl dX11_endOf_18 (by decide) (by omega) (by omega) (fun h_18 => ?_) (fun h_18 => ?_)
      · refine zw_iload_n 90 rfl dX11_endOf_89 rfl ?_
        exact zw_iretR dX11_endOf_90 rfl rfl rfl
      · omega
    · intro j hj hN
      refine zw_iload 13 rfl dX11_endOf_11 rfl ?_
      refine zw_aload_n 14 rfl dX11_endOf_13 rfl ?_
      refine zw_iload_n 15 rfl dX11_endOf_14 rfl ?_
      refine zw_cVi1 18 rfl dX11_endOf_15 kX11_endOf_176 (Nat.le_of_ble_eq_true rfl) (by first | assumption | exact zm_o0 | exact zm_o _ _ _ rfl) (m_highP h) ?_
      refine zw_icmp_ge 89 21 rfl dX11_endOf_18 (by decide) (by omega) (by omega) (fun h_18 => ?_) (fun h_18 => ?_)
      · omega
      · refine zw_iconst 22 rfl dX11_endOf_21 ?_
        refine zw_istore 24 rfl dX11_endOf_22 (Nat.le_of_ble_eq_true rfl) rfl ?_
        exact hN
    · intro j i hj hi hN
      have d1 := h.d (x := i) (y := j) (by omega) (by omega)
      have d2 := hr j i (by omega) (by omega)
      refine zw_iload 26 rfl dX11_endOf_24 rfl ?_
      refine zw_aload_n 27 rfl dX11_endOf_26 rfl ?_
      refine zw_iload_n 28 rfl dX11_endOf_27 rfl ?_
      refine zw_cVi1 31 rfl dX11_endOf_28 kX11_endOf_170 (Nat.le_of_ble_eq_true rfl) (by first | assumption | exact zm_o0 | exact zm_o _ _ _ rfl) (m_wideP h) ?_
      refine zw_icmp_ge 83 34 rfl dX11_endOf_31 (by decide) (by omega) (by omega) (fun h_31 => ?_) (fun h_31 => ?_)
      · omega
      · refine zw_iload_n 35 rfl dX11_endOf_34 rfl ?_
        refine zw_if_eq 54 38 rfl dX11_endOf_35 (by decide) (by omega) (fun h_35 => ?_) (fun h_35 => ?_)
        · refine zw_aload_n 55 rfl dX11_endOf_54 rfl ?_
          refine zw_iload_n 56 rfl dX11_endOf_55 rfl ?_
          refine zw_iload 58 rfl dX11_endOf_56 rfl ?_
          refine zw_iload 60 rfl dX11_endOf_58 rfl ?_
          refine zw_cVi3 63 rfl dX11_endOf_60 kX11_endOf_182 (Nat.le_of_ble_eq_true rfl) (by first | assumption | exact zm_o0 | exact zm_o _ _ _ rfl) (m_dotP h (by omega) (by omega)) ?_
          refine zw_iload_n 64 rfl dX11_endOf_63 rfl ?_
          refine zw_icmp_ge 77 67 rfl dX11_endOf_64 (by decide) (by omega) (by omega) (fun h_64 => ?_) (fun h_64 => ?_)
          · refine zw_iinc 80 rfl dX11_endOf_77 (Nat.le_of_ble_eq_true rfl) rfl rfl ?_
            refine zw_goto 24 dX11_endOf_80 (by decide) ?_
            rw [zpt_s, hF'] at hN
            first | (rw [if_pos (by omega)] at hN; exact hN) | (rw [if_neg (by omega)] at hN; exact hN)
          · refine zw_aload_n 68 rfl dX11_endOf_67 rfl ?_
            refine zw_iload_n 69 rfl dX11_endOf_68 rfl ?_
            refine zw_iload 71 rfl dX11_endOf_69 rfl ?_
            refine zw_iload 73 rfl dX11_endOf_71 rfl ?_
            refine zw_cVi3 76 rfl dX11_endOf_73 kX11_endOf_182 (Nat.le_of_ble_eq_true rfl) (by first | assumption | exact zm_o0 | exact zm_o _ _ _ rfl) (m_dotP h (by omega) (by omega)) ?_
            refine zw_istore_n 77 rfl dX11_endOf_76 (Nat.le_of_ble_eq_true rfl) rfl ?_
            refine zw_iinc 80 rfl dX11_endOf_77 (Nat.le_of_ble_eq_true rfl) rfl rfl ?_
            refine zw_goto 24 dX11_endOf_80 (by decide) ?_
            rw [zpt_s, hF'] at hN
            first | (rw [if_pos (by omega)] at hN; exact hN) | (rw [if_neg (by omega)] at hN; exact hN)
        · exact absurd h_35 (by decide)
    · intro j hj hO
      refine zw_iload 26 rfl dX11_endOf_24 rfl ?_
      refine zw_aload_n 27 rfl dX11_endOf_26 rfl ?_
      refine zw_iload_n 28 rfl dX11_endOf_27 rfl ?_
      refine zw_cVi1 31 rfl dX11_endOf_28 kX11_endOf_170 (Nat.le_of_ble_eq_true rfl) (by first | assumption | exact zm_o0 | exact zm_o _ _ _ rfl) (m_wideP h) ?_
      refine zw_icmp_ge 83 34 rfl dX11_endOf_31 (by decide) (by omega) (by omega) (fun h_31 => ?_) (fun h_31 => ?_)
      · refine zw_iinc 86 rfl dX11_endOf_83 (Nat.le_of_ble_eq_true rfl) rfl rfl ?_
        refine zw_goto 11 dX11_endOf_86 (by decide) ?_
        refine zw_drop 5 ?_
        exact hO
      · omega
  refine zw_aload_n 1 rfl dX11_endOf_0 rfl ?_
  refine zw_iload_n 2 rfl dX11_endOf_1 rfl ?_
  refine zw_iconst 3 rfl dX11_endOf_2 ?_
  refine zw_iconst 4 rfl dX11_endOf_3 ?_
  refine zw_cVi3 7 rfl dX11_endOf_4 kX11_endOf_182 (Nat.le_of_ble_eq_true rfl) (by first | assumption | exact zm_o0 | exact zm_o _ _ _ rfl) (m_dotP h (by omega) (by omega)) ?_
  refine zw_istore_n 8 rfl dX11_endOf_7 (Nat.le_of_ble_eq_true rfl) rfl ?_
  refine zw_iconst 9 rfl dX11_endOf_8 ?_
  refine zw_istore 11 rfl dX11_endOf_9 (Nat.le_of_ble_eq_true rfl) rfl ?_
  exact key
theorem m_mostOf {G : zG} {C : Nat} {σ τ : zSt} {p : Int} {q : zPc} (h : mPc C σ p q) : zC G M_X11_endOf [.ref C, vi p, vi 1] (zmS C, σ, τ) (zR (some (vi (aMost q))) (zmS C, σ, τ)) := by
  have hw := h.wh
  have d0 := h.d (x := 0) (y := 0) (by omega) (by omega)
  have hE : zwin 0 q.1 0 q.2.1 (fun x y m => if m < q.2.2 x y then q.2.2 x y else m) (q.2.2 0 0) = aMost q := by
    rw [aMost_from (by omega)]
    have := aMost_ge (p := q) (x := 0) (y := 0) (by omega) (by omega)
    split <;> omega
  refine zC_of 3 rfl (Nat.le_of_ble_eq_true rfl) ?_
  rw [← hE, zpt_e]
  have hr : ∀ j i : Nat, (j : Int) < q.2.1 → (i : Int) < q.1 → 0 ≤ zpt q.1 (fun x y m => if m < q.2.2 x y then q.2.2 x y else m) (q.2.2 0 0) j i ∧ zpt q.1 (fun x y m => if m < q.2.2 x y then q.2.2 x y else m) (q.2.2 0 0) j i ≤ 255 := fun j i hj hi => by
    unfold zpt
    refine zfold_ind (fun _ m => 0 ≤ m ∧ m ≤ 255) _ (zfold_ind (fun _ m => 0 ≤ m ∧ m ≤ 255) _ d0 (fun a b ha hb => zfold_ind (fun _ m => 0 ≤ m ∧ m ≤ 255) _ hb (fun c e hc he => ?_))) (fun a b ha hb => ?_)
    · have := h.d (x := c) (y := a) (by omega) (by omega)
      dsimp only; split <;> omega
    · have := h.d (x := a) (y := j) (by omega) (by omega)
      dsimp only; split <;> omega
  generalize hF : (fun (x y m : Int) => if m < q.2.2 x y then q.2.2 x y else m) = F at hr
  have hF' : ∀ x y m, F x y m = if m < q.2.2 x y then q.2.2 x y else m := fun x y m => by rw [← hF]
  have key : zW G M_X11_endOf (zR (some (vi (zpt q.1 F (q.2.2 0 0) q.2.1.toNat 0))) (zmS C, σ, τ)) 11 [some (.ref C), some (vi p), some (vi 1), some (vi (zpt q.1 F (q.2.2 0 0) 0 0)), some (vi (0 : Nat)), none] [] (zmS C, σ, τ) := by
    refine zrows (w := q.1.toNat) (h := q.2.1.toNat) (O := fun j => zW G M_X11_endOf (zR (some (vi (zpt q.1 F (q.2.2 0 0) q.2.1.toNat 0))) (zmS C, σ, τ)) 11 [some (.ref C), some (vi p), some (vi 1), some (vi (zpt q.1 F (q.2.2 0 0) j 0)), some (vi j), none] [] (zmS C, σ, τ)) (N := fun j i => zW G M_X11_endOf (zR (some (vi (zpt q.1 F (q.2.2 0 0) q.2.1.toNat 0))) (zmS C, σ, τ)) 24 [some (.ref C), some (vi p), some (vi 1), some (vi (zpt q.1 F (q.2.2 0 0) j i)), some (vi j), some (vi i)] [] (zmS C, σ, τ)) ?_ ?_ ?_ ?_
    · refine zw_iload 13 rfl dX11_endOf_11 rfl ?_
      refine zw_aload_n 14 rfl dX11_endOf_13 rfl ?_
      refine zw_iload_n 15 rfl dX11_endOf_14 rfl ?_
      refine zw_cVi1 18 rfl dX11_endOf_15 kX11_endOf_176 (Nat.le_of_ble_eq_true rfl) (by first | assumption | exact zm_o0 | exact zm_o _ _ _ rfl) (m_highP h) ?_
      refine zw_icmp_ge 89 21 rfl dX11_endOf_18 (by decide) (by omega) (by omega) (fun h_18 => ?_) (fun h_18 => ?_)
      · refine zw_iload_n 90 rfl dX11_endOf_89 rfl ?_
        exact zw_iretR dX11_endOf_90 rfl rfl rfl
      · omega
    · intro j hj hN
      refine zw_iload 13 rfl dX11_endOf_11 rfl ?_
      refine zw_aload_n 14 rfl dX11_endOf_13 rfl ?_
      refine zw_iload_n 15 rfl dX11_endOf_14 rfl ?_
      refine zw_cVi1 18 rfl dX11_endOf_15 kX11_endOf_176 (Nat.le_of_ble_eq_true rfl) (by first | assumption | exact zm_o0 | exact zm_o _ _ _ rfl) (m_highP h) ?_
      refine zw_icmp_ge 89 21 rfl dX11_endOf_18 (by decide) (by omega) (by omega) (fun h_18 => ?_) (fun h_18 => ?_)
      · omega
      · refine zw_iconst 22 rfl dX11_endOf_21 ?_
        refine zw_istore 24 rfl dX11_endOf_22 (Nat.le_of_ble_eq_true rfl) rfl ?_
        exact hN
    · intro j i hj hi hN
      have d1 := h.d (x := i) (y := j) (by omega) (by omega)
      have d2 := hr j i (by omega) (by omega)
      refine zw_iload 26 rfl dX11_endOf_24 rfl ?_
      refine zw_aload_n 27 rfl dX11_endOf_26 rfl ?_
      refine zw_iload_n 28 rfl dX11_endOf_27 rfl ?_
      refine zw_cVi1 31 rfl dX11_endOf_28 kX11_endOf_170 (Nat.le_of_ble_eq_true rfl) (by first | assumption | exact zm_o0 | exact zm_o _ _ _ rfl) (m_wideP h) ?_
      refine zw_icmp_ge 83 34 rfl dX11_endOf_31 (by decide) (by omega) (by omega) (fun h_31 => ?_) (fun h_31 => ?_)
      · omega
      · refine zw_iload_n 35 rfl dX11_endOf_34 rfl ?_
        refine zw_if_eq 54 38 rfl dX11_endOf_35 (by decide) (by omega) (fun h_35 => ?_) (fun h_35 => ?_)
        · exact absurd h_35 (by decide)
        · refine zw_aload_n 39 rfl dX11_endOf_38 rfl ?_
          refine zw_iload_n 40 rfl dX11_endOf_39 rfl ?_
          refine zw_iload 42 rfl dX11_endOf_40 rfl ?_
          refine zw_iload 44 rfl dX11_endOf_42 rfl ?_
          refine zw_cVi3 47 rfl dX11_endOf_44 kX11_endOf_182 (Nat.le_of_ble_eq_true rfl) (by first | assumption | exact zm_o0 | exact zm_o _ _ _ rfl) (m_dotP h (by omega) (by omega)) ?_
          refine zw_iload_n 48 rfl dX11_endOf_47 rfl ?_
          refine zw_icmp_le 77 51 rfl dX11_endOf_48 (by decide) (by omega) (by omega) (fun h_48 => ?_) (fun h_48 => ?_)
          · refine zw_iinc 80 rfl dX11_endOf_77 (Nat.le_of_ble_eq_true rfl) rfl rfl ?_
            refine zw_goto 24 dX11_endOf_80 (by decide) ?_
            rw [zpt_s, hF'] at hN
            first | (rw [if_pos (by omega)] at hN; exact hN) | (rw [if_neg (by omega)] at hN; exact hN)
          · refine zw_goto 67 dX11_endOf_51 (by decide) ?_
            refine zw_aload_n 68 rfl dX11_endOf_67 rfl ?_
            refine zw_iload_n 69 rfl dX11_endOf_68 rfl ?_
            refine zw_iload 71 rfl dX11_endOf_69 rfl ?_
            refine zw_iload 73 rfl dX11_endOf_71 rfl ?_
            refine zw_cVi3 76 rfl dX11_endOf_73 kX11_endOf_182 (Nat.le_of_ble_eq_true rfl) (by first | assumption | exact zm_o0 | exact zm_o _ _ _ rfl) (m_dotP h (by omega) (by omega)) ?_
            refine zw_istore_n 77 rfl dX11_endOf_76 (Nat.le_of_ble_eq_true rfl) rfl ?_
            refine zw_iinc 80 rfl dX11_endOf_77 (Nat.le_of_ble_eq_true rfl) rfl rfl ?_
            refine zw_goto 24 dX11_endOf_80 (by decide) ?_
            rw [zpt_s, hF'] at hN
            first | (rw [if_pos (by omega)] at hN; exact hN) | (rw [if_neg (by omega)] at hN; exact hN)
    · intro j hj hO
      refine zw_iload 26 rfl dX11_endOf_24 rfl ?_
      refine zw_aload_n 27 rfl dX11_endOf_26 rfl ?_
      refine zw_iload_n 28 rfl dX11_endOf_27 rfl ?_
      refine zw_cVi1 31 rfl dX11_endOf_28 kX11_endOf_170 (Nat.le_of_ble_eq_true rfl) (by first | assumption | exact zm_o0 | exact zm_o _ _ _ rfl) (m_wideP h) ?_
      refine zw_icmp_ge 83 34 rfl dX11_endOf_31 (by decide) (by omega) (by omega) (fun h_31 => ?_) (fun h_31 => ?_)
      · refine zw_iinc 86 rfl dX11_endOf_83 (Nat.le_of_ble_eq_true rfl) rfl rfl ?_
        refine zw_goto 11 dX11_endOf_86 (by decide) ?_
        refine zw_drop 5 ?_
        exact hO
      · omega
  refine zw_aload_n 1 rfl dX11_endOf_0 rfl ?_
  refine zw_iload_n 2 rfl dX11_endOf_1 rfl ?_
  refine zw_iconst 3 rfl dX11_endOf_2 ?_
  refine zw_iconst 4 rfl dX11_endOf_3 ?_
  refine zw_cVi3 7 rfl dX11_endOf_4 kX11_endOf_182 (Nat.le_of_ble_eq_true rfl) (by first | assumption | exact zm_o0 | exact zm_o _ _ _ rfl) (m_dotP h (by omega) (by omega)) ?_
  refine zw_istore_n 8 rfl dX11_endOf_7 (Nat.le_of_ble_eq_true rfl) rfl ?_
  refine zw_iconst 9 rfl dX11_endOf_8 ?_
  refine zw_istore 11 rfl dX11_endOf_9 (Nat.le_of_ble_eq_true rfl) rfl ?_
  exact key
theorem Y_stretch {G : zG} {C : Nat} {σ τ : zSt} {A : zA} {to of : Int} (h : zmR C σ τ A) (hto : -2147483648 ≤ to ∧ to ≤ 2147483647) (hof : -2147483648 ≤ of ∧ of ≤ 2147483647) : zC G M_X11_stretch [.ref C, vi to, vi of] (zmS C, σ, τ) (mQ C (sp_stretch A to of)) := by
  have hP := (mThrown (v := 0)).P h.p
  refine zC_of 4 rfl (Nat.le_of_ble_eq_true rfl) ?_
  have hlm : aTold A of → (0 ≤ aLeast (A.1 of.toNat) ∧ aMost (A.1 of.toNat) ≤ 255) ∧ ∀ x y : Int, 0 ≤ x ∧ x < (A.1 of.toNat).1 → 0 ≤ y ∧ y < (A.1 of.toNat).2.1 → aLeast (A.1 of.toNat) ≤ (A.1 of.toNat).2.2 x y ∧ (A.1 of.toNat).2.2 x y ≤ aMost (A.1 of.toNat) := fun q => ⟨⟨(aLeast_r (h.p.pc q).dots).1, (aMost_r (h.p.pc q).dots).2⟩, fun x y hx hy => ⟨aLeast_le hx hy, aMost_ge hx hy⟩⟩
  by_cases hc : aPl to ∧ aTold A of ∧ aLeast (A.1 of.toNat) < aMost (A.1 of.toNat)
  · obtain ⟨hc1, hc2, hc3⟩ := hc
    have hq := h.p.pc hc2
    have hq1 := hP.pc hc2
    have hw := hq.wh
    have hlm := hlm hc2
    have key : ∀ σs : zSt, mNw C σ ((A.1 of.toNat).1) ((A.1 of.toNat).1) ((A.1 of.toNat).2.1) ((aStr (A.1 of.toNat)).2.2) mAt 0 0 σs → zW G M_X11_stretch (mQ C (sp_stretch A to of)) 70 [some (.ref C), some (vi to), some (vi of), some (vi (aLeast (A.1 of.toNat))), some (vi (aMost (A.1 of.toNat))), some (vi (0 : Nat)), none] [] (zmS C, σs, τ) := by
      refine zrows (w := ((A.1 of.toNat).1).toNat) (h := ((A.1 of.toNat).2.1).toNat) (O := fun j => ∀ σs : zSt, mNw C σ ((A.1 of.toNat).1) ((A.1 of.toNat).1) ((A.1 of.toNat).2.1) ((aStr (A.1 of.toNat)).2.2) mAt j 0 σs → zW G M_X11_stretch (mQ C (sp_stretch A to of)) 70 [some (.ref C), some (vi to), some (vi of), some (vi (aLeast (A.1 of.toNat))), some (vi (aMost (A.1 of.toNat))), some (vi j), none] [] (zmS C, σs, τ)) (N := fun j i => ∀ σs : zSt, mNw C σ ((A.1 of.toNat).1) ((A.1 of.toNat).1) ((A.1 of.toNat).2.1) ((aStr (A.1 of.toNat)).2.2) mAt j i σs → zW G M_X11_stretch (mQ C (sp_stretch A to of)) 83 [some (.ref C), some (vi to), some (vi of), some (vi (aLeast (A.1 of.toNat))), some (vi (aMost (A.1 of.toNat))), some (vi j), some (vi i)] [] (zmS C, σs, τ)) ?_ ?_ ?_ ?_
      · intro σs hl
        have hpic := hl.pic (by omega) (by omega) (by omega) (fun x y hx hy => zz_str (hlm.2 x y hx hy) hlm.1.1 hlm.1.2 hc3)
        refine zw_iload 72 rfl dX11_stretch_70 rfl ?_
        refine zw_aload_n 73 rfl dX11_stretch_72 rfl ?_
        refine zw_iload_n 74 rfl dX11_stretch_73 rfl ?_
        refine zw_cVi1 77 rfl dX11_stretch_74 kX11_stretch_176 (Nat.le_of_ble_eq_true rfl) (by first | assumption | exact zm_o0 | exact zm_o _ _ _ rfl) (m_highP (hq.s (by omega) hl.1)) ?_
        refine zw_icmp_ge 135 80 rfl dX11_stretch_77 (by decide) (by omega) (by omega) (fun h_77 => ?_) (fun h_77 => ?_)
        · refine zw_aload_n 136 rfl dX11_stretch_135 rfl ?_
          refine zw_iload_n 137 rfl dX11_stretch_136 rfl ?_
          refine zw_iload_n 138 rfl dX11_stretch_137 rfl ?_
          refine zw_cVr2 141 rfl dX11_stretch_138 kX11_stretch_322 (Nat.le_of_ble_eq_true rfl) (by first | assumption | exact zm_o0 | exact zm_o _ _ _ rfl) (m_ends (hl.1.s.P h.p) (hl.1.s.H h.hs) hpic (by show 0 < (A.1 of.toNat).1; omega) hc1 (hq.s (by omega) hl.1) rfl rfl) ?_
          rintro _ _ ⟨rfl, σ2, rfl, hA⟩
          exact zw_iret (st := []) dX11_stretch_141 rfl (mAct h hl.1.s mScT.rf hA (by simp only [if_pos hc1, if_pos hc2, if_pos hc3]))
        · omega
      · intro j hj hN
        intro σs hl
        refine zw_iload 72 rfl dX11_stretch_70 rfl ?_
        refine zw_aload_n 73 rfl dX11_stretch_72 rfl ?_
        refine zw_iload_n 74 rfl dX11_stretch_73 rfl ?_
        refine zw_cVi1 77 rfl dX11_stretch_74 kX11_stretch_176 (Nat.le_of_ble_eq_true rfl) (by first | assumption | exact zm_o0 | exact zm_o _ _ _ rfl) (m_highP (hq.s (by omega) hl.1)) ?_
        refine zw_icmp_ge 135 80 rfl dX11_stretch_77 (by decide) (by omega) (by omega) (fun h_77 => ?_) (fun h_77 => ?_)
        · omega
        · refine zw_iconst 81 rfl dX11_stretch_80 ?_
          refine zw_istore 83 rfl dX11_stretch_81 (Nat.le_of_ble_eq_true rfl) rfl ?_
          exact hN σs hl
      · intro j i hj hi hN
        intro σs hl
        have hz := hlm.2 i j (by omega) (by omega)
        refine zw_iload 85 rfl dX11_stretch_83 rfl ?_
        refine zw_aload_n 86 rfl dX11_stretch_85 rfl ?_
        refine zw_iload_n 87 rfl dX11_stretch_86 rfl ?_
        refine zw_cVi1 90 rfl dX11_stretch_87 kX11_stretch_170 (Nat.le_of_ble_eq_true rfl) (by first | assumption | exact zm_o0 | exact zm_o _ _ _ rfl) (m_wideP (hq.s (by omega) hl.1)) ?_
        refine zw_icmp_ge 129 93 rfl dX11_stretch_90 (by decide) (by omega) (by omega) (fun h_90 => ?_) (fun h_90 => ?_)
        · omega
        · refine zw_aload_n 94 rfl dX11_stretch_93 rfl ?_
          refine zw_bipush 96 rfl dX11_stretch_94 rfl ?_
          refine zw_iload 98 rfl dX11_stretch_96 rfl ?_
          refine zw_iload 100 rfl dX11_stretch_98 rfl ?_
          refine zw_sipush 103 rfl dX11_stretch_100 rfl ?_
          refine zw_aload_n 104 rfl dX11_stretch_103 rfl ?_
          refine zw_iload_n 105 rfl dX11_stretch_104 rfl ?_
          refine zw_iload 107 rfl dX11_stretch_105 rfl ?_
          refine zw_iload 109 rfl dX11_stretch_107 rfl ?_
          refine zw_cVi3 112 rfl dX11_stretch_109 kX11_stretch_182 (Nat.le_of_ble_eq_true rfl) (by first | assumption | exact zm_o0 | exact zm_o _ _ _ rfl) (m_dotP (hq.s (by omega) hl.1) (by omega) (by omega)) ?_
          refine zw_iload_n 113 rfl dX11_stretch_112 rfl ?_
          refine zw_isub 114 rfl dX11_stretch_113 ?_
          refine zw_imul 115 rfl dX11_stretch_114 ?_
          refine zw_iload 117 rfl dX11_stretch_115 rfl ?_
          refine zw_iload_n 118 rfl dX11_stretch_117 rfl ?_
          refine zw_isub 119 rfl dX11_stretch_118 ?_
          refine zw_idiv 120 rfl dX11_stretch_119 (by omega) (by omega) ?_
          refine zw_cVv4 123 rfl dX11_stretch_120 kX11_stretch_193 (Nat.le_of_ble_eq_true rfl) (by first | assumption | exact zm_o0 | exact zm_o _ _ _ rfl) (m_putsN (by omega) (by omega)) ?_
          refine zw_iinc 126 rfl dX11_stretch_123 (Nat.le_of_ble_eq_true rfl) rfl rfl ?_
          refine zw_goto 83 dX11_stretch_126 (by decide) ?_
          exact hN _ (hl.put1 (by omega) (by omega) (by omega) (by omega) (by omega) (rfl))
      · intro j hj hO
        intro σs hl
        refine zw_iload 85 rfl dX11_stretch_83 rfl ?_
        refine zw_aload_n 86 rfl dX11_stretch_85 rfl ?_
        refine zw_iload_n 87 rfl dX11_stretch_86 rfl ?_
        refine zw_cVi1 90 rfl dX11_stretch_87 kX11_stretch_170 (Nat.le_of_ble_eq_true rfl) (by first | assumption | exact zm_o0 | exact zm_o _ _ _ rfl) (m_wideP (hq.s (by omega) hl.1)) ?_
        refine zw_icmp_ge 129 93 rfl dX11_stretch_90 (by decide) (by omega) (by omega) (fun h_90 => ?_) (fun h_90 => ?_)
        · refine zw_iinc 132 rfl dX11_stretch_129 (Nat.le_of_ble_eq_true rfl) rfl rfl ?_
          refine zw_goto 70 dX11_stretch_132 (by decide) ?_
          refine zw_drop 6 ?_
          exact hO σs hl.row
        · omega
    refine zw_aload_n 1 rfl dX11_stretch_0 rfl ?_
    refine zw_iconst 2 rfl dX11_stretch_1 ?_
    refine zw_puti 5 rfl dX11_stretch_2 fp_X11_85 (by first | assumption | exact zm_o0 | exact zm_o _ _ _ rfl) ?_
    refine zw_iload_n 6 rfl dX11_stretch_5 rfl ?_
    refine zw_cSi1 9 rfl dX11_stretch_6 kX11_stretch_316 (Nat.le_of_ble_eq_true rfl) (m_isTo (by omega)) ?_
    refine zw_if_eqB 20 12 rfl dX11_stretch_9 (by decide) (fun h_9 => ?_) (fun h_9 => ?_)
    · first | exact absurd hc1 h_9 | exact absurd hc2 h_17
    · refine zw_aload_n 13 rfl dX11_stretch_12 rfl ?_
      refine zw_iload_n 14 rfl dX11_stretch_13 rfl ?_
      refine zw_cVi1 17 rfl dX11_stretch_14 kX11_stretch_173 (Nat.le_of_ble_eq_true rfl) (by first | assumption | exact zm_o0 | exact zm_o _ _ _ rfl) (m_isPicture hP hof) ?_
      refine zw_if_neB 26 20 rfl dX11_stretch_17 (by decide) (fun h_17 => ?_) (fun h_17 => ?_)
      · refine zw_aload_n 27 rfl dX11_stretch_26 rfl ?_
        refine zw_iload_n 28 rfl dX11_stretch_27 rfl ?_
        refine zw_iconst 29 rfl dX11_stretch_28 ?_
        refine zw_cVi2 32 rfl dX11_stretch_29 kX11_stretch_327 (Nat.le_of_ble_eq_true rfl) (by first | assumption | exact zm_o0 | exact zm_o _ _ _ rfl) (m_leastOf hq1) ?_
        refine zw_istore_n 33 rfl dX11_stretch_32 (Nat.le_of_ble_eq_true rfl) rfl ?_
        refine zw_aload_n 34 rfl dX11_stretch_33 rfl ?_
        refine zw_iload_n 35 rfl dX11_stretch_34 rfl ?_
        refine zw_iconst 36 rfl dX11_stretch_35 ?_
        refine zw_cVi2 39 rfl dX11_stretch_36 kX11_stretch_327 (Nat.le_of_ble_eq_true rfl) (by first | assumption | exact zm_o0 | exact zm_o _ _ _ rfl) (m_mostOf hq1) ?_
        refine zw_istore 41 rfl dX11_stretch_39 (Nat.le_of_ble_eq_true rfl) rfl ?_
        refine zw_iload_n 42 rfl dX11_stretch_41 rfl ?_
        refine zw_iload 44 rfl dX11_stretch_42 rfl ?_
        refine zw_icmp_ne 53 47 rfl dX11_stretch_44 (by decide) (by omega) (by omega) (fun h_44 => ?_) (fun h_44 => ?_)
        · refine zw_aload_n 54 rfl dX11_stretch_53 rfl ?_
          refine zw_aload_n 55 rfl dX11_stretch_54 rfl ?_
          refine zw_iload_n 56 rfl dX11_stretch_55 rfl ?_
          refine zw_cVi1 59 rfl dX11_stretch_56 kX11_stretch_170 (Nat.le_of_ble_eq_true rfl) (by first | assumption | exact zm_o0 | exact zm_o _ _ _ rfl) (m_wideP hq1) ?_
          refine zw_aload_n 60 rfl dX11_stretch_59 rfl ?_
          refine zw_iload_n 61 rfl dX11_stretch_60 rfl ?_
          refine zw_cVi1 64 rfl dX11_stretch_61 kX11_stretch_176 (Nat.le_of_ble_eq_true rfl) (by first | assumption | exact zm_o0 | exact zm_o _ _ _ rfl) (m_highP hq1) ?_
          refine zw_cVv2 67 rfl dX11_stretch_64 kX11_stretch_200 (Nat.le_of_ble_eq_true rfl) (by first | assumption | exact zm_o0 | exact zm_o _ _ _ rfl) m_begins ?_
          refine zw_iconst 68 rfl dX11_stretch_67 ?_
          refine zw_istore 70 rfl dX11_stretch_68 (Nat.le_of_ble_eq_true rfl) rfl ?_
          exact key _ (mNw.start (mSc2.rf.u (by unfold mKey2 mKey; omega)))
        · omega
      · first | exact absurd hc1 h_9 | exact absurd hc2 h_17
  refine zw_aload_n 1 rfl dX11_stretch_0 rfl ?_
  refine zw_iconst 2 rfl dX11_stretch_1 ?_
  refine zw_puti 5 rfl dX11_stretch_2 fp_X11_85 (by first | assumption | exact zm_o0 | exact zm_o _ _ _ rfl) ?_
  refine zw_iload_n 6 rfl dX11_stretch_5 rfl ?_
  refine zw_cSi1 9 rfl dX11_stretch_6 kX11_stretch_316 (Nat.le_of_ble_eq_true rfl) (m_isTo (by omega)) ?_
  refine zw_if_eqB 20 12 rfl dX11_stretch_9 (by decide) (fun h_9 => ?_) (fun h_9 => ?_)
  · refine zw_aload_n 21 rfl dX11_stretch_20 rfl ?_
    refine zw_iconst 22 rfl dX11_stretch_21 ?_
    refine zw_cVi1 25 rfl dX11_stretch_22 kX11_stretch_147 (Nat.le_of_ble_eq_true rfl) (by first | assumption | exact zm_o0 | exact zm_o _ _ _ rfl) m_refused ?_
    exact zw_iret (st := []) dX11_stretch_25 rfl (mRef h mThrown mScT.rf (by simp only [if_neg h_9, if_true, if_false]) (by omega))
  · refine zw_aload_n 13 rfl dX11_stretch_12 rfl ?_
    refine zw_iload_n 14 rfl dX11_stretch_13 rfl ?_
    refine zw_cVi1 17 rfl dX11_stretch_14 kX11_stretch_173 (Nat.le_of_ble_eq_true rfl) (by first | assumption | exact zm_o0 | exact zm_o _ _ _ rfl) (m_isPicture hP hof) ?_
    refine zw_if_neB 26 20 rfl dX11_stretch_17 (by decide) (fun h_17 => ?_) (fun h_17 => ?_)
    · have hlm := hlm h_17
      have hz := hlm.2 0 0 (by have := (hP.pc h_17).wh; omega) (by have := (hP.pc h_17).wh; omega)
      refine zw_aload_n 27 rfl dX11_stretch_26 rfl ?_
      refine zw_iload_n 28 rfl dX11_stretch_27 rfl ?_
      refine zw_iconst 29 rfl dX11_stretch_28 ?_
      refine zw_cVi2 32 rfl dX11_stretch_29 kX11_stretch_327 (Nat.le_of_ble_eq_true rfl) (by first | assumption | exact zm_o0 | exact zm_o _ _ _ rfl) (m_leastOf (hP.pc h_17)) ?_
      refine zw_istore_n 33 rfl dX11_stretch_32 (Nat.le_of_ble_eq_true rfl) rfl ?_
      refine zw_aload_n 34 rfl dX11_stretch_33 rfl ?_
      refine zw_iload_n 35 rfl dX11_stretch_34 rfl ?_
      refine zw_iconst 36 rfl dX11_stretch_35 ?_
      refine zw_cVi2 39 rfl dX11_stretch_36 kX11_stretch_327 (Nat.le_of_ble_eq_true rfl) (by first | assumption | exact zm_o0 | exact zm_o _ _ _ rfl) (m_mostOf (hP.pc h_17)) ?_
      refine zw_istore 41 rfl dX11_stretch_39 (Nat.le_of_ble_eq_true rfl) rfl ?_
      refine zw_iload_n 42 rfl dX11_stretch_41 rfl ?_
      refine zw_iload 44 rfl dX11_stretch_42 rfl ?_
      refine zw_icmp_ne 53 47 rfl dX11_stretch_44 (by decide) (by omega) (by omega) (fun h_44 => ?_) (fun h_44 => ?_)
      · exact absurd ⟨h_9, h_17, by omega⟩ hc
      · refine zw_aload_n 48 rfl dX11_stretch_47 rfl ?_
        refine zw_iconst 49 rfl dX11_stretch_48 ?_
        refine zw_cVi1 52 rfl dX11_stretch_49 kX11_stretch_147 (Nat.le_of_ble_eq_true rfl) (by first | assumption | exact zm_o0 | exact zm_o _ _ _ rfl) m_refused ?_
        exact zw_iret (st := []) dX11_stretch_52 rfl (mRef h mThrown mScT.rf (by rw [if_pos h_9, if_pos h_17, if_neg (by omega)]) (by omega))
    · refine zw_aload_n 21 rfl dX11_stretch_20 rfl ?_
      refine zw_iconst 22 rfl dX11_stretch_21 ?_
      refine zw_cVi1 25 rfl dX11_stretch_22 kX11_stretch_147 (Nat.le_of_ble_eq_true rfl) (by first | assumption | exact zm_o0 | exact zm_o _ _ _ rfl) m_refused ?_
      exact zw_iret (st := []) dX11_stretch_25 rfl (mRef h mThrown mScT.rf (by simp only [if_pos h_9, if_neg h_17, if_true, if_false]) (by omega))
/-! ===== smaller ===== -/
theorem zwin_sh {α : Type} {f : Int → Int → α → α} {x0 x1 y0 y1 : Int} {a : α} : zwin x0 x1 y0 y1 f a = zwin 0 (x1 - x0) 0 (y1 - y0) (fun x y => f (x0 + x) (y0 + y)) a := by
  rw [zpt_e]; rfl
theorem m_sumOf {G : zG} {C : Nat} {σ τ : zSt} {of x y n : Int} {q : zPc} (h : mPc C σ of q) (hx : 0 ≤ x ∧ x + n ≤ q.1) (hy : 0 ≤ y ∧ y + n ≤ q.2.1) (hn : 2 ≤ n ∧ n ≤ 4) : zC G M_X11_sumOf [.ref C, vi of, vi x, vi y, vi n] (zmS C, σ, τ) (zR (some (vi (aWS q x y n n))) (zmS C, σ, τ)) := by
  have hw := h.wh
  refine zC_of 3 rfl (Nat.le_of_ble_eq_true rfl) ?_
  have e : aWS q x y n n = zpt n (fun a b m => m + q.2.2 (x + a) (y + b)) 0 n.toNat 0 := by
    unfold aWS aWin
    rw [show zmx 0 x = x by unfold zmx; split <;> omega, show zmx 0 y = y by unfold zmx; split <;> omega, show zmn (x + n) q.1 = x + n by unfold zmn; split <;> omega, show zmn (y + n) q.2.1 = y + n by unfold zmn; split <;> omega, zwin_sh, show x + n - x = n by omega, show y + n - y = n by omega, zpt_e]
  rw [e]
  generalize hF : (fun (a b m : Int) => m + q.2.2 (x + a) (y + b)) = F
  have hF' : ∀ a b m, F a b m = m + q.2.2 (x + a) (y + b) := fun a b m => by rw [← hF]
  have key : zW G M_X11_sumOf (zR (some (vi (zpt n F 0 n.toNat 0))) (zmS C, σ, τ)) 6 [some (.ref C), some (vi of), some (vi x), some (vi y), some (vi n), some (vi (zpt n F 0 0 0)), some (vi (0 : Nat)), none] [] (zmS C, σ, τ) := by
    refine zrows (w := n.toNat) (h := n.toNat) (O := fun j => zW G M_X11_sumOf (zR (some (vi (zpt n F 0 n.toNat 0))) (zmS C, σ, τ)) 6 [some (.ref C), some (vi of), some (vi x), some (vi y), some (vi n), some (vi (zpt n F 0 j 0)), some (vi j), none] [] (zmS C, σ, τ)) (N := fun j i => zW G M_X11_sumOf (zR (some (vi (zpt n F 0 n.toNat 0))) (zmS C, σ, τ)) 16 [some (.ref C), some (vi of), some (vi x), some (vi y), some (vi n), some (vi (zpt n F 0 j i)), some (vi j), some (vi i)] [] (zmS C, σ, τ)) ?_ ?_ ?_ ?_
    · refine zw_iload 8 rfl dX11_sumOf_6 rfl ?_
      refine zw_iload 10 rfl dX11_sumOf_8 rfl ?_
      refine zw_icmp_ge 53 13 rfl dX11_sumOf_10 (by decide) (by omega) (by omega) (fun h_10 => ?_) (fun h_10 => ?_)
      · refine zw_iload 55 rfl dX11_sumOf_53 rfl ?_
        exact zw_iretR dX11_sumOf_55 rfl rfl rfl
      · omega
    · intro j hj hN
      refine zw_iload 8 rfl dX11_sumOf_6 rfl ?_
      refine zw_iload 10 rfl dX11_sumOf_8 rfl ?_
      refine zw_icmp_ge 53 13 rfl dX11_sumOf_10 (by decide) (by omega) (by omega) (fun h_10 => ?_) (fun h_10 => ?_)
      · omega
      · refine zw_iconst 14 rfl dX11_sumOf_13 ?_
        refine zw_istore 16 rfl dX11_sumOf_14 (Nat.le_of_ble_eq_true rfl) rfl ?_
        exact hN
    · intro j i hj hi hN
      refine zw_iload 18 rfl dX11_sumOf_16 rfl ?_
      refine zw_iload 20 rfl dX11_sumOf_18 rfl ?_
      refine zw_icmp_ge 47 23 rfl dX11_sumOf_20 (by decide) (by omega) (by omega) (fun h_20 => ?_) (fun h_20 => ?_)
      · omega
      · refine zw_iload 25 rfl dX11_sumOf_23 rfl ?_
        refine zw_aload_n 26 rfl dX11_sumOf_25 rfl ?_
        refine zw_iload_n 27 rfl dX11_sumOf_26 rfl ?_
        refine zw_iload_n 28 rfl dX11_sumOf_27 rfl ?_
        refine zw_iload 30 rfl dX11_sumOf_28 rfl ?_
        refine zw_iadd 31 rfl dX11_sumOf_30 ?_
        refine zw_iload_n 32 rfl dX11_sumOf_31 rfl ?_
        refine zw_iload 34 rfl dX11_sumOf_32 rfl ?_
        refine zw_iadd 35 rfl dX11_sumOf_34 ?_
        refine zw_cVi3 38 rfl dX11_sumOf_35 kX11_sumOf_182 (Nat.le_of_ble_eq_true rfl) (by first | assumption | exact zm_o0 | exact zm_o _ _ _ rfl) (m_dotP h (by omega) (by omega)) ?_
        refine zw_iadd 39 rfl dX11_sumOf_38 ?_
        refine zw_istore 41 rfl dX11_sumOf_39 (Nat.le_of_ble_eq_true rfl) rfl ?_
        refine zw_iinc 44 rfl dX11_sumOf_41 (Nat.le_of_ble_eq_true rfl) rfl rfl ?_
        refine zw_goto 16 dX11_sumOf_44 (by decide) ?_
        rw [zpt_s, hF'] at hN
        exact hN
    · intro j hj hO
      refine zw_iload 18 rfl dX11_sumOf_16 rfl ?_
      refine zw_iload 20 rfl dX11_sumOf_18 rfl ?_
      refine zw_icmp_ge 47 23 rfl dX11_sumOf_20 (by decide) (by omega) (by omega) (fun h_20 => ?_) (fun h_20 => ?_)
      · refine zw_iinc 50 rfl dX11_sumOf_47 (Nat.le_of_ble_eq_true rfl) rfl rfl ?_
        refine zw_goto 6 dX11_sumOf_50 (by decide) ?_
        refine zw_drop 7 ?_
        exact hO
      · omega
  refine zw_iconst 1 rfl dX11_sumOf_0 ?_
  refine zw_istore 3 rfl dX11_sumOf_1 (Nat.le_of_ble_eq_true rfl) rfl ?_
  refine zw_iconst 4 rfl dX11_sumOf_3 ?_
  refine zw_istore 6 rfl dX11_sumOf_4 (Nat.le_of_ble_eq_true rfl) rfl ?_
  exact key
theorem aWC_sq {q : zPc} {x y n : Int} (hx : 0 ≤ x ∧ x + n ≤ q.1) (hy : 0 ≤ y ∧ y + n ≤ q.2.1) (hn : 2 ≤ n ∧ n ≤ 4) : aWC q x y n n = n * n := by
  have h2 : aWC q x y n n = (((zmn (y + n) q.2.1 - zmx 0 y).toNat * (zmn (x + n) q.1 - zmx 0 x).toNat : Nat) : Int) := zwin_ind (f := fun _ _ (m : Int) => m + 1) (x0 := zmx 0 x) (x1 := zmn (x + n) q.1) (y0 := zmx 0 y) (y1 := zmn (y + n) q.2.1) (fun (k : Nat) (m : Int) => m = (k : Int)) rfl (fun k _ _ b _ _ hb => by rw [hb]; rfl)
  rw [h2, show zmx 0 x = x by unfold zmx; split <;> omega, show zmx 0 y = y by unfold zmx; split <;> omega, show zmn (x + n) q.1 = x + n by unfold zmn; split <;> omega, show zmn (y + n) q.2.1 = y + n by unfold zmn; split <;> omega, show (x + n - x).toNat = n.toNat by omega, show (y + n - y).toNat = n.toNat by omega, Int.natCast_mul, show ((n.toNat : Nat) : Int) = n by omega]
theorem Y_smaller {G : zG} {C : Nat} {σ τ : zSt} {A : zA} {to of n : Int} (h : zmR C σ τ A) (hto : -2147483648 ≤ to ∧ to ≤ 2147483647) (hof : -2147483648 ≤ of ∧ of ≤ 2147483647) (hn : -2147483648 ≤ n ∧ n ≤ 2147483647) : zC G M_X11_smaller [.ref C, vi to, vi of, vi n] (zmS C, σ, τ) (mQ C (sp_smaller A to of n)) := by
  have hP := (mThrown (v := 0)).P h.p
  refine zC_of 2 rfl (Nat.le_of_ble_eq_true rfl) ?_
  by_cases hc : aPl to ∧ aTold A of ∧ (2 ≤ n ∧ n ≤ 4) ∧ ¬ (A.1 of.toNat).1 < n ∧ n ≤ (A.1 of.toNat).2.1
  · obtain ⟨hc1, hc2, hc3, hc4, hc5⟩ := hc
    have hq := h.p.pc hc2
    have hq1 := hP.pc hc2
    have hw := hq.wh
    have w1 : 1 ≤ (A.1 of.toNat).1 / n ∧ (A.1 of.toNat).1 / n ≤ (A.1 of.toNat).1 := ⟨(Int.le_ediv_iff_mul_le (by omega)).mpr (by omega), Int.ediv_le_self _ (by omega)⟩
    have w2 : 1 ≤ (A.1 of.toNat).2.1 / n ∧ (A.1 of.toNat).2.1 / n ≤ (A.1 of.toNat).2.1 := ⟨(Int.le_ediv_iff_mul_le (by omega)).mpr (by omega), Int.ediv_le_self _ (by omega)⟩
    have n2 : 4 ≤ n * n ∧ n * n ≤ 16 := by
      rcases (show n = 2 ∨ n = 3 ∨ n = 4 by omega) with e | e | e <;> subst e <;> decide
    have hz : ∀ x y : Int, 0 ≤ x ∧ x < (A.1 of.toNat).1 / n → 0 ≤ y ∧ y < (A.1 of.toNat).2.1 / n → ((0 ≤ x * n ∧ x * n + n ≤ (A.1 of.toNat).1) ∧ 0 ≤ y * n ∧ y * n + n ≤ (A.1 of.toNat).2.1) ∧ (aWC (A.1 of.toNat) (x * n) (y * n) n n = n * n) ∧ 0 ≤ aWS (A.1 of.toNat) (x * n) (y * n) n n ∧ aWS (A.1 of.toNat) (x * n) (y * n) n n ≤ 255 * (n * n) := fun x y hx hy => by
      have z1 := zz_sm (by omega) hx
      have z2 := zz_sm (by omega) hy
      have z3 := aWC_sq z1 z2 hc3
      have z4 := aWS_r (x := x * n) (y := y * n) (u := n) (v := n) hq.dots
      rw [z3] at z4
      exact ⟨⟨z1, z2⟩, z3, z4⟩
    have key : ∀ σs : zSt, mNw C σ ((A.1 of.toNat).1 / n) ((A.1 of.toNat).1 / n) ((A.1 of.toNat).2.1 / n) ((aSma (A.1 of.toNat) n).2.2) mAt 0 0 σs → zW G M_X11_smaller (mQ C (sp_smaller A to of n)) 86 [some (.ref C), some (vi to), some (vi of), some (vi n), some (vi (0 : Nat)), none] [] (zmS C, σs, τ) := by
      refine zrows (w := ((A.1 of.toNat).1 / n).toNat) (h := ((A.1 of.toNat).2.1 / n).toNat) (O := fun j => ∀ σs : zSt, mNw C σ ((A.1 of.toNat).1 / n) ((A.1 of.toNat).1 / n) ((A.1 of.toNat).2.1 / n) ((aSma (A.1 of.toNat) n).2.2) mAt j 0 σs → zW G M_X11_smaller (mQ C (sp_smaller A to of n)) 86 [some (.ref C), some (vi to), some (vi of), some (vi n), some (vi j), none] [] (zmS C, σs, τ)) (N := fun j i => ∀ σs : zSt, mNw C σ ((A.1 of.toNat).1 / n) ((A.1 of.toNat).1 / n) ((A.1 of.toNat).2.1 / n) ((aSma (A.1 of.toNat) n).2.2) mAt j i σs → zW G M_X11_smaller (mQ C (sp_smaller A to of n)) 100 [some (.ref C), some (vi to), some (vi of), some (vi n), some (vi j), some (vi i)] [] (zmS C, σs, τ)) ?_ ?_ ?_ ?_
      · intro σs hl
        have hpic := hl.pic (by omega) (by omega) (by omega) (fun x y hx hy => by
          have z := hz x y hx hy
          refine znear_r (m := 255) z.2.2.1 (by rw [z.2.1]; omega) (by rw [z.2.1]; exact z.2.2.2))
        refine zw_iload 88 rfl dX11_smaller_86 rfl ?_
        refine zw_aload_n 89 rfl dX11_smaller_88 rfl ?_
        refine zw_bipush 91 rfl dX11_smaller_89 rfl ?_
        refine zw_cVi1 94 rfl dX11_smaller_91 kX11_smaller_176 (Nat.le_of_ble_eq_true rfl) (by first | assumption | exact zm_o0 | exact zm_o _ _ _ rfl) (m_highN hl.2.2.1) ?_
        refine zw_icmp_ge 155 97 rfl dX11_smaller_94 (by decide) (by omega) (by omega) (fun h_94 => ?_) (fun h_94 => ?_)
        · refine zw_aload_n 156 rfl dX11_smaller_155 rfl ?_
          refine zw_iload_n 157 rfl dX11_smaller_156 rfl ?_
          refine zw_cVr1 160 rfl dX11_smaller_157 kX11_smaller_203 (Nat.le_of_ble_eq_true rfl) (by first | assumption | exact zm_o0 | exact zm_o _ _ _ rfl) (m_becomes (hl.1.s.P h.p) (hl.1.s.H h.hs) hpic hc1) ?_
          rintro _ _ ⟨rfl, σ2, rfl, hA⟩
          refine zw_aload_n 161 rfl dX11_smaller_160 rfl ?_
          refine zw_iconst 162 rfl dX11_smaller_161 ?_
          refine zw_cVi1 165 rfl dX11_smaller_162 kX11_smaller_197 (Nat.le_of_ble_eq_true rfl) (by first | assumption | exact zm_o0 | exact zm_o _ _ _ rfl) m_yes ?_
          exact zw_zret (st := []) dX11_smaller_165 rfl (by omega) (mAct h hl.1.s mScT.rf hA (by simp only [if_pos hc1, if_pos hc2, if_pos hc3, if_neg hc4, if_pos hc5]))
        · omega
      · intro j hj hN
        intro σs hl
        refine zw_iload 88 rfl dX11_smaller_86 rfl ?_
        refine zw_aload_n 89 rfl dX11_smaller_88 rfl ?_
        refine zw_bipush 91 rfl dX11_smaller_89 rfl ?_
        refine zw_cVi1 94 rfl dX11_smaller_91 kX11_smaller_176 (Nat.le_of_ble_eq_true rfl) (by first | assumption | exact zm_o0 | exact zm_o _ _ _ rfl) (m_highN hl.2.2.1) ?_
        refine zw_icmp_ge 155 97 rfl dX11_smaller_94 (by decide) (by omega) (by omega) (fun h_94 => ?_) (fun h_94 => ?_)
        · omega
        · refine zw_iconst 98 rfl dX11_smaller_97 ?_
          refine zw_istore 100 rfl dX11_smaller_98 (Nat.le_of_ble_eq_true rfl) rfl ?_
          exact hN σs hl
      · intro j i hj hi hN
        intro σs hl
        have hz1 := hz i j (by omega) (by omega)
        refine zw_iload 102 rfl dX11_smaller_100 rfl ?_
        refine zw_aload_n 103 rfl dX11_smaller_102 rfl ?_
        refine zw_bipush 105 rfl dX11_smaller_103 rfl ?_
        refine zw_cVi1 108 rfl dX11_smaller_105 kX11_smaller_170 (Nat.le_of_ble_eq_true rfl) (by first | assumption | exact zm_o0 | exact zm_o _ _ _ rfl) (m_wideN hl.2.1) ?_
        refine zw_icmp_ge 149 111 rfl dX11_smaller_108 (by decide) (by omega) (by omega) (fun h_108 => ?_) (fun h_108 => ?_)
        · omega
        · refine zw_aload_n 112 rfl dX11_smaller_111 rfl ?_
          refine zw_bipush 114 rfl dX11_smaller_112 rfl ?_
          refine zw_iload 116 rfl dX11_smaller_114 rfl ?_
          refine zw_iload 118 rfl dX11_smaller_116 rfl ?_
          refine zw_aload_n 119 rfl dX11_smaller_118 rfl ?_
          refine zw_iload_n 120 rfl dX11_smaller_119 rfl ?_
          refine zw_iload 122 rfl dX11_smaller_120 rfl ?_
          refine zw_iload_n 123 rfl dX11_smaller_122 rfl ?_
          refine zw_imul 124 rfl dX11_smaller_123 ?_
          refine zw_iload 126 rfl dX11_smaller_124 rfl ?_
          refine zw_iload_n 127 rfl dX11_smaller_126 rfl ?_
          refine zw_imul 128 rfl dX11_smaller_127 ?_
          refine zw_iload_n 129 rfl dX11_smaller_128 rfl ?_
          refine zw_cVi4 132 rfl dX11_smaller_129 kX11_smaller_331 (Nat.le_of_ble_eq_true rfl) (by first | assumption | exact zm_o0 | exact zm_o _ _ _ rfl) (m_sumOf (hq.s (by omega) hl.1) hz1.1.1 hz1.1.2 hc3) ?_
          refine zw_i2l 133 rfl dX11_smaller_132 (by omega) ?_
          refine zw_iload_n 134 rfl dX11_smaller_133 rfl ?_
          refine zw_iload_n 135 rfl dX11_smaller_134 rfl ?_
          refine zw_imul 136 rfl dX11_smaller_135 ?_
          refine zw_i2l 137 rfl dX11_smaller_136 (by omega) ?_
          refine zw_cSi2 140 rfl dX11_smaller_137 kX11_smaller_295 (Nat.le_of_ble_eq_true rfl) (m_nearest (by omega) (by omega)) ?_
          refine zw_cVv4 143 rfl dX11_smaller_140 kX11_smaller_193 (Nat.le_of_ble_eq_true rfl) (by first | assumption | exact zm_o0 | exact zm_o _ _ _ rfl) (m_putsN (by omega) (by omega)) ?_
          refine zw_iinc 146 rfl dX11_smaller_143 (Nat.le_of_ble_eq_true rfl) rfl rfl ?_
          refine zw_goto 100 dX11_smaller_146 (by decide) ?_
          exact hN _ (hl.put1 (by omega) (by omega) (by omega) (by omega) (by omega) (by show _ = znear _ _; rw [hz1.2.1]))
      · intro j hj hO
        intro σs hl
        refine zw_iload 102 rfl dX11_smaller_100 rfl ?_
        refine zw_aload_n 103 rfl dX11_smaller_102 rfl ?_
        refine zw_bipush 105 rfl dX11_smaller_103 rfl ?_
        refine zw_cVi1 108 rfl dX11_smaller_105 kX11_smaller_170 (Nat.le_of_ble_eq_true rfl) (by first | assumption | exact zm_o0 | exact zm_o _ _ _ rfl) (m_wideN hl.2.1) ?_
        refine zw_icmp_ge 149 111 rfl dX11_smaller_108 (by decide) (by omega) (by omega) (fun h_108 => ?_) (fun h_108 => ?_)
        · refine zw_iinc 152 rfl dX11_smaller_149 (Nat.le_of_ble_eq_true rfl) rfl rfl ?_
          refine zw_goto 86 dX11_smaller_152 (by decide) ?_
          refine zw_drop 5 ?_
          exact hO σs hl.row
        · omega
    refine zw_aload_n 1 rfl dX11_smaller_0 rfl ?_
    refine zw_iconst 2 rfl dX11_smaller_1 ?_
    refine zw_puti 5 rfl dX11_smaller_2 fp_X11_85 (by first | assumption | exact zm_o0 | exact zm_o _ _ _ rfl) ?_
    refine zw_iload_n 6 rfl dX11_smaller_5 rfl ?_
    refine zw_cSi1 9 rfl dX11_smaller_6 kX11_smaller_316 (Nat.le_of_ble_eq_true rfl) (m_isTo (by omega)) ?_
    refine zw_if_eqB 20 12 rfl dX11_smaller_9 (by decide) (fun h_9 => ?_) (fun h_9 => ?_)
    · first | exact absurd hc1 h_9 | exact absurd hc2 h_17
    · refine zw_aload_n 13 rfl dX11_smaller_12 rfl ?_
      refine zw_iload_n 14 rfl dX11_smaller_13 rfl ?_
      refine zw_cVi1 17 rfl dX11_smaller_14 kX11_smaller_173 (Nat.le_of_ble_eq_true rfl) (by first | assumption | exact zm_o0 | exact zm_o _ _ _ rfl) (m_isPicture hP hof) ?_
      refine zw_if_neB 26 20 rfl dX11_smaller_17 (by decide) (fun h_17 => ?_) (fun h_17 => ?_)
      · refine zw_iload_n 27 rfl dX11_smaller_26 rfl ?_
        refine zw_iconst 28 rfl dX11_smaller_27 ?_
        refine zw_iconst 29 rfl dX11_smaller_28 ?_
        refine zw_cSi3 32 rfl dX11_smaller_29 kX11_smaller_106 (Nat.le_of_ble_eq_true rfl) (m_in (by omega) (by omega) (by omega)) ?_
        refine zw_if_neB 41 35 rfl dX11_smaller_32 (by decide) (fun h_32 => ?_) (fun h_32 => ?_)
        · refine zw_aload_n 42 rfl dX11_smaller_41 rfl ?_
          refine zw_iload_n 43 rfl dX11_smaller_42 rfl ?_
          refine zw_cVi1 46 rfl dX11_smaller_43 kX11_smaller_170 (Nat.le_of_ble_eq_true rfl) (by first | assumption | exact zm_o0 | exact zm_o _ _ _ rfl) (m_wideP hq1) ?_
          refine zw_iload_n 47 rfl dX11_smaller_46 rfl ?_
          refine zw_icmp_lt 59 50 rfl dX11_smaller_47 (by decide) (by omega) (by omega) (fun h_47 => ?_) (fun h_47 => ?_)
          · first | exact absurd h_47 hc4 | exact absurd hc5 h_56
          · refine zw_aload_n 51 rfl dX11_smaller_50 rfl ?_
            refine zw_iload_n 52 rfl dX11_smaller_51 rfl ?_
            refine zw_cVi1 55 rfl dX11_smaller_52 kX11_smaller_176 (Nat.le_of_ble_eq_true rfl) (by first | assumption | exact zm_o0 | exact zm_o _ _ _ rfl) (m_highP hq1) ?_
            refine zw_iload_n 56 rfl dX11_smaller_55 rfl ?_
            refine zw_icmp_ge 65 59 rfl dX11_smaller_56 (by decide) (by omega) (by omega) (fun h_56 => ?_) (fun h_56 => ?_)
            · refine zw_aload_n 66 rfl dX11_smaller_65 rfl ?_
              refine zw_aload_n 67 rfl dX11_smaller_66 rfl ?_
              refine zw_iload_n 68 rfl dX11_smaller_67 rfl ?_
              refine zw_cVi1 71 rfl dX11_smaller_68 kX11_smaller_170 (Nat.le_of_ble_eq_true rfl) (by first | assumption | exact zm_o0 | exact zm_o _ _ _ rfl) (m_wideP hq1) ?_
              refine zw_iload_n 72 rfl dX11_smaller_71 rfl ?_
              refine zw_idiv 73 rfl dX11_smaller_72 (by omega) (by omega) ?_
              refine zw_aload_n 74 rfl dX11_smaller_73 rfl ?_
              refine zw_iload_n 75 rfl dX11_smaller_74 rfl ?_
              refine zw_cVi1 78 rfl dX11_smaller_75 kX11_smaller_176 (Nat.le_of_ble_eq_true rfl) (by first | assumption | exact zm_o0 | exact zm_o _ _ _ rfl) (m_highP hq1) ?_
              refine zw_iload_n 79 rfl dX11_smaller_78 rfl ?_
              refine zw_idiv 80 rfl dX11_smaller_79 (by omega) (by omega) ?_
              refine zw_cVv2 83 rfl dX11_smaller_80 kX11_smaller_200 (Nat.le_of_ble_eq_true rfl) (by first | assumption | exact zm_o0 | exact zm_o _ _ _ rfl) m_begins ?_
              refine zw_iconst 84 rfl dX11_smaller_83 ?_
              refine zw_istore 86 rfl dX11_smaller_84 (Nat.le_of_ble_eq_true rfl) rfl ?_
              exact key _ (mNw.start (mSc2.rf.u (by unfold mKey2 mKey; omega)))
            · first | exact absurd h_47 hc4 | exact absurd hc5 h_56
        · exact absurd hc3 h_32
      · first | exact absurd hc1 h_9 | exact absurd hc2 h_17
  refine zw_aload_n 1 rfl dX11_smaller_0 rfl ?_
  refine zw_iconst 2 rfl dX11_smaller_1 ?_
  refine zw_puti 5 rfl dX11_smaller_2 fp_X11_85 (by first | assumption | exact zm_o0 | exact zm_o _ _ _ rfl) ?_
  refine zw_iload_n 6 rfl dX11_smaller_5 rfl ?_
  refine zw_cSi1 9 rfl dX11_smaller_6 kX11_smaller_316 (Nat.le_of_ble_eq_true rfl) (m_isTo (by omega)) ?_
  refine zw_if_eqB 20 12 rfl dX11_smaller_9 (by decide) (fun h_9 => ?_) (fun h_9 => ?_)
  · refine zw_aload_n 21 rfl dX11_smaller_20 rfl ?_
    refine zw_iconst 22 rfl dX11_smaller_21 ?_
    refine zw_cVi1 25 rfl dX11_smaller_22 kX11_smaller_197 (Nat.le_of_ble_eq_true rfl) (by first | assumption | exact zm_o0 | exact zm_o _ _ _ rfl) (m_no (by omega) (by omega)) ?_
    exact zw_zret (st := []) dX11_smaller_25 rfl (by omega) (mRef h mThrown mScT.rf (by simp only [if_neg h_9, if_true, if_false]) (by omega))
  · refine zw_aload_n 13 rfl dX11_smaller_12 rfl ?_
    refine zw_iload_n 14 rfl dX11_smaller_13 rfl ?_
    refine zw_cVi1 17 rfl dX11_smaller_14 kX11_smaller_173 (Nat.le_of_ble_eq_true rfl) (by first | assumption | exact zm_o0 | exact zm_o _ _ _ rfl) (m_isPicture hP hof) ?_
    refine zw_if_neB 26 20 rfl dX11_smaller_17 (by decide) (fun h_17 => ?_) (fun h_17 => ?_)
    · refine zw_iload_n 27 rfl dX11_smaller_26 rfl ?_
      refine zw_iconst 28 rfl dX11_smaller_27 ?_
      refine zw_iconst 29 rfl dX11_smaller_28 ?_
      refine zw_cSi3 32 rfl dX11_smaller_29 kX11_smaller_106 (Nat.le_of_ble_eq_true rfl) (m_in (by omega) (by omega) (by omega)) ?_
      refine zw_if_neB 41 35 rfl dX11_smaller_32 (by decide) (fun h_32 => ?_) (fun h_32 => ?_)
      · have hw := (hP.pc h_17).wh
        refine zw_aload_n 42 rfl dX11_smaller_41 rfl ?_
        refine zw_iload_n 43 rfl dX11_smaller_42 rfl ?_
        refine zw_cVi1 46 rfl dX11_smaller_43 kX11_smaller_170 (Nat.le_of_ble_eq_true rfl) (by first | assumption | exact zm_o0 | exact zm_o _ _ _ rfl) (m_wideP (hP.pc h_17)) ?_
        refine zw_iload_n 47 rfl dX11_smaller_46 rfl ?_
        refine zw_icmp_lt 59 50 rfl dX11_smaller_47 (by decide) (by omega) (by omega) (fun h_47 => ?_) (fun h_47 => ?_)
        · refine zw_aload_n 60 rfl dX11_smaller_59 rfl ?_
          refine zw_iconst 61 rfl dX11_smaller_60 ?_
          refine zw_cVi1 64 rfl dX11_smaller_61 kX11_smaller_197 (Nat.le_of_ble_eq_true rfl) (by first | assumption | exact zm_o0 | exact zm_o _ _ _ rfl) (m_no (by omega) (by omega)) ?_
          exact zw_zret (st := []) dX11_smaller_64 rfl (by omega) (mRef h mThrown mScT.rf (by simp only [if_pos h_9, if_pos h_17, if_pos h_32, if_pos h_47, if_true, if_false]) (by omega))
        · refine zw_aload_n 51 rfl dX11_smaller_50 rfl ?_
          refine zw_iload_n 52 rfl dX11_smaller_51 rfl ?_
          refine zw_cVi1 55 rfl dX11_smaller_52 kX11_smaller_176 (Nat.le_of_ble_eq_true rfl) (by first | assumption | exact zm_o0 | exact zm_o _ _ _ rfl) (m_highP (hP.pc h_17)) ?_
          refine zw_iload_n 56 rfl dX11_smaller_55 rfl ?_
          refine zw_icmp_ge 65 59 rfl dX11_smaller_56 (by decide) (by omega) (by omega) (fun h_56 => ?_) (fun h_56 => ?_)
          · exact absurd ⟨h_9, h_17, h_32, h_47, h_56⟩ hc
          · refine zw_aload_n 60 rfl dX11_smaller_59 rfl ?_
            refine zw_iconst 61 rfl dX11_smaller_60 ?_
            refine zw_cVi1 64 rfl dX11_smaller_61 kX11_smaller_197 (Nat.le_of_ble_eq_true rfl) (by first | assumption | exact zm_o0 | exact zm_o _ _ _ rfl) (m_no (by omega) (by omega)) ?_
            exact zw_zret (st := []) dX11_smaller_64 rfl (by omega) (mRef h mThrown mScT.rf (by simp only [if_pos h_9, if_pos h_17, if_pos h_32, if_neg h_47, if_neg h_56, if_true, if_false]) (by omega))
      · refine zw_aload_n 36 rfl dX11_smaller_35 rfl ?_
        refine zw_iconst 37 rfl dX11_smaller_36 ?_
        refine zw_cVi1 40 rfl dX11_smaller_37 kX11_smaller_197 (Nat.le_of_ble_eq_true rfl) (by first | assumption | exact zm_o0 | exact zm_o _ _ _ rfl) (m_no (by omega) (by omega)) ?_
        exact zw_zret (st := []) dX11_smaller_40 rfl (by omega) (mRef h mThrown mScT.rf (by simp only [if_pos h_9, if_pos h_17, if_neg h_32, if_true, if_false]) (by omega))
    · refine zw_aload_n 21 rfl dX11_smaller_20 rfl ?_
      refine zw_iconst 22 rfl dX11_smaller_21 ?_
      refine zw_cVi1 25 rfl dX11_smaller_22 kX11_smaller_197 (Nat.le_of_ble_eq_true rfl) (by first | assumption | exact zm_o0 | exact zm_o _ _ _ rfl) (m_no (by omega) (by omega)) ?_
      exact zw_zret (st := []) dX11_smaller_25 rfl (by omega) (mRef h mThrown mScT.rf (by simp only [if_pos h_9, if_neg h_17, if_true, if_false]) (by omega))
