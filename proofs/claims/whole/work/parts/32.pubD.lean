/-! ===== turn ===== -/
theorem c_turnedShade {G : zG} {S : zSh} {σ τ : zSt} {a : Nat} {p : zPc} {x y what : Int} (hp : zPic S a (a + 1)) (h : xrPic σ a p) (h0 : 0 < p.1) (hx : 0 ≤ x ∧ x < (aTurn p what).1) (hy : 0 ≤ y ∧ y < (aTurn p what).2.1) (hw : -2147483648 ≤ what ∧ what ≤ 2147483647) : zC G M_X10_turnedShade [.ref a, vi x, vi y, vi what] (S, σ, τ) (zR (some (vi ((aTurn p what).2.2 x y))) (S, σ, τ)) := by
  have hwh := h.wh h0
  have ha := hp.1
  refine zC_of 0 rfl (Nat.le_of_ble_eq_true rfl) ?_
  by_cases h3 : what = 3
  · have e : aTurn p what = (p.2.1, p.1, fun x y => p.2.2 y x) := by rw [aTurn, if_pos h3]
    rw [e] at hx hy ⊢
    simp only at hx hy ⊢
    refine zw_iload_n 1 rfl dX10_turnedShade_0 rfl ?_
    rcases (show what = 1 ∨ what = 2 ∨ what = 3 ∨ what = 4 ∨ (what < 1 ∨ 4 < what) by omega) with h_1 | h_1 | h_1 | h_1 | h_1
    · refine zw_tableIn (off := 31) 32 dX10_turnedShade_1 (by omega) (by omega) (by omega) (by rw [h_1]; rfl) (by decide) ?_
      omega
    · refine zw_tableIn (off := 45) 46 dX10_turnedShade_1 (by omega) (by omega) (by omega) (by rw [h_1]; rfl) (by decide) ?_
      omega
    · refine zw_tableIn (off := 59) 60 dX10_turnedShade_1 (by omega) (by omega) (by omega) (by rw [h_1]; rfl) (by decide) ?_
      refine zw_aload_n 61 rfl dX10_turnedShade_60 rfl ?_
      refine zw_iload_n 62 rfl dX10_turnedShade_61 rfl ?_
      refine zw_iload_n 63 rfl dX10_turnedShade_62 rfl ?_
      refine zw_cVi2 66 rfl dX10_turnedShade_63 kX10_turnedShade_174 (Nat.le_of_ble_eq_true rfl) ha (c_shadeAt hp h.1 (by omega) (by omega)) ?_
      rw [h.dot h0 hy hx]
      exact zw_iretR dX10_turnedShade_66 rfl rfl rfl
    · refine zw_tableIn (off := 66) 67 dX10_turnedShade_1 (by omega) (by omega) (by omega) (by rw [h_1]; rfl) (by decide) ?_
      omega
    · refine zw_tableOut 78 dX10_turnedShade_1 (by omega) h_1 (by decide) ?_
      omega
  · have e : aTurn p what = (p.1, p.2.1, fun x y => if what = 1 then p.2.2 (p.1 - 1 - x) y else if what = 2 then p.2.2 x (p.2.1 - 1 - y) else if what = 4 then 255 - p.2.2 x y else p.2.2 x y) := by rw [aTurn, if_neg h3]
    rw [e] at hx hy ⊢
    simp only at hx hy ⊢
    refine zw_iload_n 1 rfl dX10_turnedShade_0 rfl ?_
    rcases (show what = 1 ∨ what = 2 ∨ what = 3 ∨ what = 4 ∨ (what < 1 ∨ 4 < what) by omega) with h_1 | h_1 | h_1 | h_1 | h_1
    · refine zw_tableIn (off := 31) 32 dX10_turnedShade_1 (by omega) (by omega) (by omega) (by rw [h_1]; rfl) (by decide) ?_
      refine zw_aload_n 33 rfl dX10_turnedShade_32 rfl ?_
      refine zw_aload_n 34 rfl dX10_turnedShade_33 rfl ?_
      refine zw_geti 37 rfl dX10_turnedShade_34 fl_X10_148 (by first | assumption | exact zx_o0 | exact zx_o _ _ _ rfl) ?_
      rw [hwh.1.1]
      refine zw_iconst 38 rfl dX10_turnedShade_37 ?_
      refine zw_isub 39 rfl dX10_turnedShade_38 ?_
      refine zw_iload_n 40 rfl dX10_turnedShade_39 rfl ?_
      refine zw_isub 41 rfl dX10_turnedShade_40 ?_
      refine zw_iload_n 42 rfl dX10_turnedShade_41 rfl ?_
      refine zw_cVi2 45 rfl dX10_turnedShade_42 kX10_turnedShade_174 (Nat.le_of_ble_eq_true rfl) ha (c_shadeAt hp h.1 (by omega) (by omega)) ?_
      rw [h.dot h0 (by omega) hy]
      exact zw_iretR dX10_turnedShade_45 rfl (by rw [if_pos h_1]) rfl
    · refine zw_tableIn (off := 45) 46 dX10_turnedShade_1 (by omega) (by omega) (by omega) (by rw [h_1]; rfl) (by decide) ?_
      refine zw_aload_n 47 rfl dX10_turnedShade_46 rfl ?_
      refine zw_iload_n 48 rfl dX10_turnedShade_47 rfl ?_
      refine zw_aload_n 49 rfl dX10_turnedShade_48 rfl ?_
      refine zw_geti 52 rfl dX10_turnedShade_49 fl_X10_151 (by first | assumption | exact zx_o0 | exact zx_o _ _ _ rfl) ?_
      rw [hwh.1.2]
      refine zw_iconst 53 rfl dX10_turnedShade_52 ?_
      refine zw_isub 54 rfl dX10_turnedShade_53 ?_
      refine zw_iload_n 55 rfl dX10_turnedShade_54 rfl ?_
      refine zw_isub 56 rfl dX10_turnedShade_55 ?_
      refine zw_cVi2 59 rfl dX10_turnedShade_56 kX10_turnedShade_174 (Nat.le_of_ble_eq_true rfl) ha (c_shadeAt hp h.1 (by omega) (by omega)) ?_
      rw [h.dot h0 hx (by omega)]
      exact zw_iretR dX10_turnedShade_59 rfl (by rw [if_neg (by omega), if_pos h_1]) rfl
    · refine zw_tableIn (off := 59) 60 dX10_turnedShade_1 (by omega) (by omega) (by omega) (by rw [h_1]; rfl) (by decide) ?_
      omega
    · refine zw_tableIn (off := 66) 67 dX10_turnedShade_1 (by omega) (by omega) (by omega) (by rw [h_1]; rfl) (by decide) ?_
      refine zw_sipush 70 rfl dX10_turnedShade_67 rfl ?_
      refine zw_aload_n 71 rfl dX10_turnedShade_70 rfl ?_
      refine zw_iload_n 72 rfl dX10_turnedShade_71 rfl ?_
      refine zw_iload_n 73 rfl dX10_turnedShade_72 rfl ?_
      refine zw_cVi2 76 rfl dX10_turnedShade_73 kX10_turnedShade_174 (Nat.le_of_ble_eq_true rfl) ha (c_shadeAt hp h.1 (by omega) (by omega)) ?_
      rw [h.dot h0 hx hy]
      refine zw_isub 77 rfl dX10_turnedShade_76 ?_
      exact zw_iretR dX10_turnedShade_77 rfl (by rw [if_neg (by omega), if_neg (by omega), if_pos h_1]) rfl
    · refine zw_tableOut 78 dX10_turnedShade_1 (by omega) h_1 (by decide) ?_
      refine zw_aload_n 79 rfl dX10_turnedShade_78 rfl ?_
      refine zw_iload_n 80 rfl dX10_turnedShade_79 rfl ?_
      refine zw_iload_n 81 rfl dX10_turnedShade_80 rfl ?_
      refine zw_cVi2 84 rfl dX10_turnedShade_81 kX10_turnedShade_174 (Nat.le_of_ble_eq_true rfl) ha (c_shadeAt hp h.1 (by omega) (by omega)) ?_
      rw [h.dot h0 hx hy]
      exact zw_iretR dX10_turnedShade_84 rfl (by rw [if_neg (by omega), if_neg (by omega), if_neg (by omega)]) rfl
theorem c_turnToWork {G : zG} {B a : Nat} {σ1 τ : zSt} {p : zPc} {what : Int} (hp : zPic (zxS B) a (a + 1)) (h : xrPic σ1 a p) (h0 : 0 < p.1) (hw : 0 ≤ what ∧ what ≤ 4) (h12 : what = 3 → p.1 ≤ 12) (hn : B + 74 ≤ a ∧ a + 1 < B + 86) : zC G M_X10_turnToWork [.ref B, .ref a, vi what] (zxS B, σ1, τ) (fun r w => r = none ∧ ∃ σs : zSt, w = (zxS B, σs, τ) ∧ xLI B σ1 (aTurn p what).1 (aTurn p what).2.1 (aTurn p what).2.2 ((aTurn p what).2.1 * (aTurn p what).1) σs) := by
  have hwh := h.wh h0
  have ha := hp.1
  have hd : 1 ≤ (aTurn p what).1 ∧ (aTurn p what).1 ≤ 16 ∧ 1 ≤ (aTurn p what).2.1 ∧ (aTurn p what).2.1 ≤ 12 := by
    unfold aTurn
    by_cases h3 : what = 3
    · rw [if_pos h3]; have := h12 h3; simp only; omega
    · rw [if_neg h3]; simp only; omega
  have hT : ∀ (σs : zSt) (i j : Int), σs a = σ1 a → σs (a + 1) = σ1 (a + 1) → 0 ≤ i ∧ i < (aTurn p what).1 → 0 ≤ j ∧ j < (aTurn p what).2.1 → zC G M_X10_turnedShade [.ref a, vi i, vi j, vi what] (zxS B, σs, τ) (zR (some (vi ((aTurn p what).2.2 i j))) (zxS B, σs, τ)) := fun σs i j e1 e2 hi hj => c_turnedShade hp (h.c e1 e2) h0 hi hj (by omega)
  have dW : (if what = 3 then p.2.1 else p.1) = (aTurn p what).1 := by unfold aTurn; split <;> rfl
  have dH : (if what = 3 then p.1 else p.2.1) = (aTurn p what).2.1 := by unfold aTurn; split <;> rfl
  generalize (aTurn p what).1 = W at hd hT dW ⊢
  generalize (aTurn p what).2.1 = H at hd hT dH ⊢
  generalize (aTurn p what).2.2 = F at hT ⊢
  refine zC_of 3 rfl (Nat.le_of_ble_eq_true rfl) ?_
  have fin : ∀ sw : Int, zW G M_X10_turnToWork (fun r w => r = none ∧ ∃ σs : zSt, w = (zxS B, σs, τ) ∧ xLI B σ1 W H F (H * W) σs) 48 [some (.ref B), some (.ref a), some (vi what), some (vi sw), none, none] [] (zxS B, zu (zu σ1 (B + 2) 1 W) (B + 2) 2 H, τ) := by
    intro sw
    have outer : ∀ (fu : Nat) (j : Int) (σs : zSt), 0 ≤ j ∧ j ≤ H → H - j < fu → xLI B σ1 (W) (H) F (j * (W)) σs → zW G M_X10_turnToWork (fun r w => r = none ∧ ∃ σs : zSt, w = (zxS B, σs, τ) ∧ xLI B σ1 W H F (H * W) σs) 51 [some (.ref B), some (.ref a), some (vi what), some (vi sw), some (vi j), none] [] (zxS B, σs, τ) := by
      intro fu
      induction fu with
      | zero => intro j σs h1 h2; omega
      | succ fu ih =>
        intro j σs h1 h2 hl
        have inner : ∀ (fm : Nat) (i : Int) (σs : zSt), j < H → 0 ≤ i ∧ i ≤ W → W - i < fm → xLI B σ1 (W) (H) F (j * (W) + i) σs → zW G M_X10_turnToWork (fun r w => r = none ∧ ∃ σs : zSt, w = (zxS B, σs, τ) ∧ xLI B σ1 W H F (H * W) σs) 66 [some (.ref B), some (.ref a), some (vi what), some (vi sw), some (vi j), some (vi i)] [] (zxS B, σs, τ) := by
          intro fm
          induction fm with
          | zero => intro i σs h3 h4 h5; omega
          | succ fm ihm =>
            intro i σs h3 h4 h5 hl
            have hpw := hl.pw (by omega) (by omega)
            have hw1 := hl.2.2.1
            have hw2 := hl.2.2.2.1
            have ea := hl.1.2 a (by omega) (by omega) (by omega)
            have es := hl.1.2 (a + 1) (by omega) (by omega) (by omega)
            refine zw_iload 68 rfl dX10_turnToWork_66 rfl ?_
            refine zw_aload_n 69 rfl dX10_turnToWork_68 rfl ?_
            refine zw_getr 72 rfl dX10_turnToWork_69 fl_X10_16 (by first | assumption | exact zx_o0 | exact zx_o _ _ _ rfl) (by first | assumption | exact zx_f0 _ _ rfl | exact zx_f _ _ _ rfl) ?_
            refine zw_geti 75 rfl dX10_turnToWork_72 fl_X10_148 (by first | assumption | exact zx_o0 | exact zx_o _ _ _ rfl) ?_
            rw [hw1]
            refine zw_icmp_ge 104 78 rfl dX10_turnToWork_75 (by decide) (by omega) (by omega) (fun h_75 => ?_) (fun h_75 => ?_)
            · refine zw_iinc 107 rfl dX10_turnToWork_104 (Nat.le_of_ble_eq_true rfl) rfl rfl ?_
              refine zw_goto 51 dX10_turnToWork_107 (by decide) ?_
              refine zw_drop 5 ?_
              exact ih (j + 1) _ (by omega) (by omega) (by rw [Int.add_mul, Int.one_mul, show W = i by omega]; rw [show W = i by omega] at hl; exact hl)
            · refine zw_aload_n 79 rfl dX10_turnToWork_78 rfl ?_
              refine zw_getr 82 rfl dX10_turnToWork_79 fl_X10_16 (by first | assumption | exact zx_o0 | exact zx_o _ _ _ rfl) (by first | assumption | exact zx_f0 _ _ rfl | exact zx_f _ _ _ rfl) ?_
              refine zw_iload 84 rfl dX10_turnToWork_82 rfl ?_
              refine zw_iload 86 rfl dX10_turnToWork_84 rfl ?_
              refine zw_aload_n 87 rfl dX10_turnToWork_86 rfl ?_
              refine zw_iload 89 rfl dX10_turnToWork_87 rfl ?_
              refine zw_iload 91 rfl dX10_turnToWork_89 rfl ?_
              refine zw_iload_n 92 rfl dX10_turnToWork_91 rfl ?_
              refine zw_cSi4 95 rfl dX10_turnToWork_92 kX10_turnToWork_223 (Nat.le_of_ble_eq_true rfl) (hT σs i j ea es (by omega) (by omega)) ?_
              refine zw_cVv3 98 rfl dX10_turnToWork_95 kX10_turnToWork_184 (Nat.le_of_ble_eq_true rfl) (by first | assumption | exact zx_o0 | exact zx_o _ _ _ rfl) (c_putShade zx_work hpw (by omega) (by omega)) ?_
              rw [if_pos (by rw [zHas, hw1, hw2]; omega), hw1]
              refine zw_iinc 101 rfl dX10_turnToWork_98 (Nat.le_of_ble_eq_true rfl) rfl rfl ?_
              refine zw_goto 66 dX10_turnToWork_101 (by decide) ?_
              exact ihm (i + 1) _ h3 (by omega) (by omega) (by rw [← Int.add_assoc]; exact hl.put (by omega) (by omega))
        refine zw_iload 53 rfl dX10_turnToWork_51 rfl ?_
        refine zw_aload_n 54 rfl dX10_turnToWork_53 rfl ?_
        refine zw_getr 57 rfl dX10_turnToWork_54 fl_X10_16 (by first | assumption | exact zx_o0 | exact zx_o _ _ _ rfl) (by first | assumption | exact zx_f0 _ _ rfl | exact zx_f _ _ _ rfl) ?_
        refine zw_geti 60 rfl dX10_turnToWork_57 fl_X10_151 (by first | assumption | exact zx_o0 | exact zx_o _ _ _ rfl) ?_
        rw [hl.2.2.2.1]
        refine zw_icmp_ge 110 63 rfl dX10_turnToWork_60 (by decide) (by omega) (by omega) (fun h_60 => ?_) (fun h_60 => ?_)
        · exact zw_vret (st := []) dX10_turnToWork_110 rfl ⟨rfl, _, rfl, by rw [show H = j by omega] at hl ⊢; exact hl⟩
        · refine zw_iconst 64 rfl dX10_turnToWork_63 ?_
          refine zw_istore 66 rfl dX10_turnToWork_64 (Nat.le_of_ble_eq_true rfl) rfl ?_
          exact inner (W.toNat + 1) 0 _ (by omega) (by omega) (by omega) (by rw [Int.add_zero]; exact hl)
    refine zw_iconst 49 rfl dX10_turnToWork_48 ?_
    refine zw_istore 51 rfl dX10_turnToWork_49 (Nat.le_of_ble_eq_true rfl) rfl ?_
    exact outer (H.toNat + 1) 0 _ (by omega) (by omega) (by rw [Int.zero_mul]; exact xLI.start)
  have mid : ∀ sw : Int, sw = zb (what = 3) → zW G M_X10_turnToWork (fun r w => r = none ∧ ∃ σs : zSt, w = (zxS B, σs, τ) ∧ xLI B σ1 W H F (H * W) σs) 11 [some (.ref B), some (.ref a), some (vi what), some (vi sw), none, none] [] (zxS B, σ1, τ) := by
    intro sw hsw
    subst hsw
    have R45 : ∀ u v : Int, u = W → v = H → zW G M_X10_turnToWork (fun r w => r = none ∧ ∃ σs : zSt, w = (zxS B, σs, τ) ∧ xLI B σ1 W H F (H * W) σs) 45 [some (.ref B), some (.ref a), some (vi what), some (vi (zb (what = 3))), none, none] [vi v, vi u, .ref (B + 2)] (zxS B, σ1, τ) := by
      intro u v hu hv
      subst hu
      subst hv
      refine zw_cVv2 48 rfl dX10_turnToWork_45 kX10_turnToWork_194 (Nat.le_of_ble_eq_true rfl) (by first | assumption | exact zx_o0 | exact zx_o _ _ _ rfl) (c_resize (zx_o 2 5 0 rfl) (by omega) (by omega)) ?_
      rw [zhold_in (by omega), zhold_in (by omega)]
      exact fin _
    refine zw_aload_n 12 rfl dX10_turnToWork_11 rfl ?_
    refine zw_getr 15 rfl dX10_turnToWork_12 fl_X10_16 (by first | assumption | exact zx_o0 | exact zx_o _ _ _ rfl) (by first | assumption | exact zx_f0 _ _ rfl | exact zx_f _ _ _ rfl) ?_
    refine zw_iload_n 16 rfl dX10_turnToWork_15 rfl ?_
    refine zw_if_eqB 26 19 rfl dX10_turnToWork_16 (by decide) (fun h_16 => ?_) (fun h_16 => ?_)
    · refine zw_aload_n 27 rfl dX10_turnToWork_26 rfl ?_
      refine zw_geti 30 rfl dX10_turnToWork_27 fl_X10_148 ha ?_
      refine zw_iload_n 31 rfl dX10_turnToWork_30 rfl ?_
      refine zw_if_eqB 41 34 rfl dX10_turnToWork_31 (by decide) (fun h_31 => ?_) (fun h_31 => ?_)
      · refine zw_aload_n 42 rfl dX10_turnToWork_41 rfl ?_
        refine zw_geti 45 rfl dX10_turnToWork_42 fl_X10_151 ha ?_
        first | exact absurd h_31 h_16 | exact absurd h_16 h_31 | exact R45 _ _ (by rw [← dW]; first | (rw [if_pos h_16]; exact hwh.1.2) | (rw [if_neg h_16]; exact hwh.1.1)) (by rw [← dH]; first | (rw [if_pos h_16]; exact hwh.1.1) | (rw [if_neg h_16]; exact hwh.1.2))
      · refine zw_aload_n 35 rfl dX10_turnToWork_34 rfl ?_
        refine zw_geti 38 rfl dX10_turnToWork_35 fl_X10_148 ha ?_
        refine zw_goto 45 dX10_turnToWork_38 (by decide) ?_
        first | exact absurd h_31 h_16 | exact absurd h_16 h_31 | exact R45 _ _ (by rw [← dW]; first | (rw [if_pos h_16]; exact hwh.1.2) | (rw [if_neg h_16]; exact hwh.1.1)) (by rw [← dH]; first | (rw [if_pos h_16]; exact hwh.1.1) | (rw [if_neg h_16]; exact hwh.1.2))
    · refine zw_aload_n 20 rfl dX10_turnToWork_19 rfl ?_
      refine zw_geti 23 rfl dX10_turnToWork_20 fl_X10_151 ha ?_
      refine zw_goto 30 dX10_turnToWork_23 (by decide) ?_
      refine zw_iload_n 31 rfl dX10_turnToWork_30 rfl ?_
      refine zw_if_eqB 41 34 rfl dX10_turnToWork_31 (by decide) (fun h_31 => ?_) (fun h_31 => ?_)
      · refine zw_aload_n 42 rfl dX10_turnToWork_41 rfl ?_
        refine zw_geti 45 rfl dX10_turnToWork_42 fl_X10_151 ha ?_
        first | exact absurd h_31 h_16 | exact absurd h_16 h_31 | exact R45 _ _ (by rw [← dW]; first | (rw [if_pos h_16]; exact hwh.1.2) | (rw [if_neg h_16]; exact hwh.1.1)) (by rw [← dH]; first | (rw [if_pos h_16]; exact hwh.1.1) | (rw [if_neg h_16]; exact hwh.1.2))
      · refine zw_aload_n 35 rfl dX10_turnToWork_34 rfl ?_
        refine zw_geti 38 rfl dX10_turnToWork_35 fl_X10_148 ha ?_
        refine zw_goto 45 dX10_turnToWork_38 (by decide) ?_
        first | exact absurd h_31 h_16 | exact absurd h_16 h_31 | exact R45 _ _ (by rw [← dW]; first | (rw [if_pos h_16]; exact hwh.1.2) | (rw [if_neg h_16]; exact hwh.1.1)) (by rw [← dH]; first | (rw [if_pos h_16]; exact hwh.1.1) | (rw [if_neg h_16]; exact hwh.1.2))
  refine zw_iload_n 1 rfl dX10_turnToWork_0 rfl ?_
  refine zw_iconst 2 rfl dX10_turnToWork_1 ?_
  refine zw_icmp_ne 9 5 rfl dX10_turnToWork_2 (by decide) (by omega) (by omega) (fun h_2 => ?_) (fun h_2 => ?_)
  · refine zw_iconst 10 rfl dX10_turnToWork_9 ?_
    refine zw_istore_n 11 rfl dX10_turnToWork_10 (Nat.le_of_ble_eq_true rfl) rfl ?_
    exact mid _ (by first | exact zb_t h_2 | exact zb_f h_2)
  · refine zw_iconst 6 rfl dX10_turnToWork_5 ?_
    refine zw_goto 10 dX10_turnToWork_6 (by decide) ?_
    refine zw_istore_n 11 rfl dX10_turnToWork_10 (Nat.le_of_ble_eq_true rfl) rfl ?_
    exact mid _ (by first | exact zb_t h_2 | exact zb_f h_2)
