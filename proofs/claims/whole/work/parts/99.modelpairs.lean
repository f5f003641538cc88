/-! ===== steep ===== -/
theorem zpt_ind {α : Type} {w : Int} {f : Int → Int → α → α} {a : α} (I : Nat → α → Prop) (h0 : I 0 a) (hs : ∀ n x y b, I n b → I (n + 1) (f x y b)) (j i : Nat) : I (j * w.toNat + i) (zpt w f a j i) := by
  unfold zpt
  have h1 : I (j * w.toNat) (zfold (fun (j : Nat) => zfold (fun (i : Nat) => f i j) w.toNat) j a) := zfold_ind (fun (j : Nat) m => I (j * w.toNat) m) j (by rw [Nat.zero_mul]; exact h0) (fun c b hc hb => by
    have := zfold_ind (f := fun (i : Nat) => f i c) (fun (i : Nat) m => I (c * w.toNat + i) m) w.toNat hb (fun i d hi hd => hs _ _ _ _ hd)
    rw [Nat.succ_mul]; exact this)
  exact zfold_ind (f := fun (i : Nat) => f i j) (fun (i : Nat) m => I (j * w.toNat + i) m) i h1 (fun c d hc hd => hs _ _ _ _ hd)
theorem Y_steep {G : zG} {C : Nat} {σ τ : zSt} {A : zA} {p what : Int} (h : zmR C σ τ A) (hp : -2147483648 ≤ p ∧ p ≤ 2147483647) (hwhat : -2147483648 ≤ what ∧ what ≤ 2147483647) : zC G M_X11_steep [.ref C, vi p, vi what] (zmS C, σ, τ) (mQ C (sp_steep A p what)) := by
  have hP := (mThrown (v := 0)).P h.p
  refine zC_of 5 rfl (Nat.le_of_ble_eq_true rfl) ?_
  by_cases hc : aTold A p ∧ 0 ≤ what ∧ what ≤ 2
  · obtain ⟨hc1, hc2⟩ := hc
    have hq := hP.pc hc1
    have hw := hq.wh
    have hE : ∀ F, (fun (x y s : Int) => s + (if what = 2 then 0 else zmx 0 (zStR (A.1 p.toNat) x y)) + (if what = 1 then 0 else zmx 0 (zStD (A.1 p.toNat) x y))) = F → aSteep (A.1 p.toNat) what = zpt (A.1 p.toNat).1 F 0 (A.1 p.toNat).2.1.toNat 0 := fun F e => by subst e; exact zpt_e _ _ _ _
    generalize hF : (fun (x y s : Int) => s + (if what = 2 then 0 else zmx 0 (zStR (A.1 p.toNat) x y)) + (if what = 1 then 0 else zmx 0 (zStD (A.1 p.toNat) x y))) = F
    have hE := hE F hF
    have hF' : ∀ x y n, F x y n = n + (if what = 2 then 0 else zmx 0 (zSt2 (A.1 p.toNat) x y 0)) + (if what = 1 then 0 else zmx 0 (zSt2 (A.1 p.toNat) x y 1)) := fun x y n => by rw [← hF]; rfl
    have key : zW G M_X11_steep (mQ C (sp_steep A p what)) 33 [some (.ref C), some (vi p), some (vi what), some (vi (zpt (A.1 p.toNat).1 F 0 0 0)), some (vi (0 : Nat)), none, none, none] [] (zmS C, zu σ C 0 0, τ) := by
      refine zrows (w := (A.1 p.toNat).1.toNat) (h := (A.1 p.toNat).2.1.toNat) (O := fun j => zW G M_X11_steep (mQ C (sp_steep A p what)) 33 [some (.ref C), some (vi p), some (vi what), some (vi (zpt (A.1 p.toNat).1 F 0 j 0)), some (vi j), none, none, none] [] (zmS C, zu σ C 0 0, τ)) (N := fun j i => zW G M_X11_steep (mQ C (sp_steep A p what)) 46 [some (.ref C), some (vi p), some (vi what), some (vi (zpt (A.1 p.toNat).1 F 0 j i)), some (vi j), some (vi i), none, none] [] (zmS C, zu σ C 0 0, τ)) ?_ ?_ ?_ ?_
      · refine zw_iload 35 rfl dX11_steep_33 rfl ?_
        refine zw_aload_n 36 rfl dX11_steep_35 rfl ?_
        refine zw_iload_n 37 rfl dX11_steep_36 rfl ?_
        refine zw_cVi1 40 rfl dX11_steep_37 kX11_steep_176 (Nat.le_of_ble_eq_true rfl) (by first | assumption | exact zm_o0 | exact zm_o _ _ _ rfl) (m_highP hq) ?_
        refine zw_icmp_ge 151 43 rfl dX11_steep_40 (by decide) (by omega) (by omega) (fun h_40 => ?_) (fun h_40 => ?_)
        · refine zw_aload_n 152 rfl dX11_steep_151 rfl ?_
          refine zw_iload_n 153 rfl dX11_steep_152 rfl ?_
          refine zw_cVi1 156 rfl dX11_steep_153 kX11_steep_157 (Nat.le_of_ble_eq_true rfl) (by first | assumption | exact zm_o0 | exact zm_o _ _ _ rfl) m_good ?_
          exact zw_iret (st := []) dX11_steep_156 rfl (mRead h mThrown mScT.rf (by rw [if_pos hc1, if_pos hc2]) hE.symm rfl)
        · omega
      · intro j hj hN
        refine zw_iload 35 rfl dX11_steep_33 rfl ?_
        refine zw_aload_n 36 rfl dX11_steep_35 rfl ?_
        refine zw_iload_n 37 rfl dX11_steep_36 rfl ?_
        refine zw_cVi1 40 rfl dX11_steep_37 kX11_steep_176 (Nat.le_of_ble_eq_true rfl) (by first | assumption | exact zm_o0 | exact zm_o _ _ _ rfl) (m_highP hq) ?_
        refine zw_icmp_ge 151 43 rfl dX11_steep_40 (by decide) (by omega) (by omega) (fun h_40 => ?_) (fun h_40 => ?_)
        · omega
        · refine zw_iconst 44 rfl dX11_steep_43 ?_
          refine zw_istore 46 rfl dX11_steep_44 (Nat.le_of_ble_eq_true rfl) rfl ?_
          exact hN
      · intro j i hj hi hN
        rw [zpt_s, hF'] at hN
        have hd := hq.d (x := i) (y := j) (by omega) (by omega)
        have K2 : ∀ c, c = zpt (A.1 p.toNat).1 F 0 j i + (if what = 2 then 0 else zmx 0 (zSt2 (A.1 p.toNat) i j 0)) + (if what = 1 then 0 else zmx 0 (zSt2 (A.1 p.toNat) i j 1)) → zW G M_X11_steep (mQ C (sp_steep A p what)) 59 [some (.ref C), some (vi p), some (vi what), some (vi c), some (vi j), some (vi i), some (vi 2), none] [] (zmS C, zu σ C 0 0, τ) := by
            intro c hc
            refine zw_iload 61 rfl dX11_steep_59 rfl ?_
            refine zw_iconst 62 rfl dX11_steep_61 ?_
            refine zw_icmp_ge 139 65 rfl dX11_steep_62 (by decide) (by omega) (by omega) (fun h_62 => ?_) (fun h_62 => ?_)
            · refine zw_iinc 142 rfl dX11_steep_139 (Nat.le_of_ble_eq_true rfl) rfl rfl ?_
              refine zw_goto 46 dX11_steep_142 (by decide) ?_
              refine zw_drop 6 ?_
              rw [← hc] at hN
              exact hN
            · omega
        have K1 : ∀ c, c = zpt (A.1 p.toNat).1 F 0 j i + (if what = 2 then 0 else zmx 0 (zSt2 (A.1 p.toNat) i j 0)) → zW G M_X11_steep (mQ C (sp_steep A p what)) 59 [some (.ref C), some (vi p), some (vi what), some (vi c), some (vi j), some (vi i), some (vi 1), none] [] (zmS C, zu σ C 0 0, τ) := by
            intro c hc
            refine zw_iload 61 rfl dX11_steep_59 rfl ?_
            refine zw_iconst 62 rfl dX11_steep_61 ?_
            refine zw_icmp_ge 139 65 rfl dX11_steep_62 (by decide) (by omega) (by omega) (fun h_62 => ?_) (fun h_62 => ?_)
            · omega
            · refine zw_aload_n 66 rfl dX11_steep_65 rfl ?_
              refine zw_iload_n 67 rfl dX11_steep_66 rfl ?_
              refine zw_iload 69 rfl dX11_steep_67 rfl ?_
              refine zw_iload 71 rfl dX11_steep_69 rfl ?_
              refine zw_iload 73 rfl dX11_steep_71 rfl ?_
              refine zw_cVi4 76 rfl dX11_steep_73 kX11_steep_344 (Nat.le_of_ble_eq_true rfl) (by first | assumption | exact zm_o0 | exact zm_o _ _ _ rfl) (m_hasNb hq (by omega) (by omega) (by omega)) ?_
              refine zw_if_eqB 133 79 rfl dX11_steep_76 (by decide) (fun h_76 => ?_) (fun h_76 => ?_)
              · refine zw_iinc 136 rfl dX11_steep_133 (Nat.le_of_ble_eq_true rfl) rfl rfl ?_
                refine zw_goto 59 dX11_steep_136 (by decide) ?_
                refine zw_drop 7 ?_
                refine K2 _ ?_
                rw [hc]
                first
                | (exfalso; omega)
                | (rw [if_pos (show what = 1 by omega), Int.add_zero]; done)
                | (rw [zSt2_n (by omega) (by omega) h_76]; unfold zmx; (repeat' split) <;> omega)
                | (rw [if_neg (show ¬ what = 1 by omega), hy]; unfold zab zmx; (repeat' split) <;> omega)
              · have ho := zOt_r hq (by omega) (by omega) h_76
                have hy := zSt2_y (by omega) (by omega) h_76
                refine zw_iload_n 80 rfl dX11_steep_79 rfl ?_
                refine zw_if_le 94 83 rfl dX11_steep_80 (by decide) (by omega) (fun h_80 => ?_) (fun h_80 => ?_)
                · refine zw_aload_n 95 rfl dX11_steep_94 rfl ?_
                  refine zw_iload_n 96 rfl dX11_steep_95 rfl ?_
                  refine zw_iload 98 rfl dX11_steep_96 rfl ?_
                  refine zw_iload 100 rfl dX11_steep_98 rfl ?_
                  refine zw_cVi3 103 rfl dX11_steep_100 kX11_steep_182 (Nat.le_of_ble_eq_true rfl) (by first | assumption | exact zm_o0 | exact zm_o _ _ _ rfl) (m_dotP hq (by omega) (by omega)) ?_
                  refine zw_aload_n 104 rfl dX11_steep_103 rfl ?_
                  refine zw_iload_n 105 rfl dX11_steep_104 rfl ?_
                  refine zw_iload 107 rfl dX11_steep_105 rfl ?_
                  refine zw_iload 109 rfl dX11_steep_107 rfl ?_
                  refine zw_iload 111 rfl dX11_steep_109 rfl ?_
                  refine zw_cVi4 114 rfl dX11_steep_111 kX11_steep_347 (Nat.le_of_ble_eq_true rfl) (by first | assumption | exact zm_o0 | exact zm_o _ _ _ rfl) (m_other hq (by omega) (by omega) (by omega) h_76) ?_
                  refine zw_isub 115 rfl dX11_steep_114 ?_
                  refine zw_istore 117 rfl dX11_steep_115 (Nat.le_of_ble_eq_true rfl) rfl ?_
                  refine zw_iload_n 118 rfl dX11_steep_117 rfl ?_
                  refine zw_iload 120 rfl dX11_steep_118 rfl ?_
                  refine zw_if_ge 129 123 rfl dX11_steep_120 (by decide) (by omega) (fun h_120 => ?_) (fun h_120 => ?_)
                  · refine zw_iload 131 rfl dX11_steep_129 rfl ?_
                    refine zw_iadd 132 rfl dX11_steep_131 ?_
                    refine zw_istore_n 133 rfl dX11_steep_132 (Nat.le_of_ble_eq_true rfl) rfl ?_
                    refine zw_iinc 136 rfl dX11_steep_133 (Nat.le_of_ble_eq_true rfl) rfl rfl ?_
                    refine zw_goto 59 dX11_steep_136 (by decide) ?_
                    refine zw_drop 7 ?_
                    refine K2 _ ?_
                    rw [hc]
                    first
                    | (exfalso; omega)
                    | (rw [if_pos (show what = 1 by omega), Int.add_zero]; done)
                    | (rw [zSt2_n (by omega) (by omega) h_76]; unfold zmx; (repeat' split) <;> omega)
                    | (rw [if_neg (show ¬ what = 1 by omega), hy]; unfold zab zmx; (repeat' split) <;> omega)
                  · refine zw_iload 125 rfl dX11_steep_123 rfl ?_
                    refine zw_ineg 126 rfl dX11_steep_125 ?_
                    refine zw_goto 131 dX11_steep_126 (by decide) ?_
                    refine zw_iadd 132 rfl dX11_steep_131 ?_
                    refine zw_istore_n 133 rfl dX11_steep_132 (Nat.le_of_ble_eq_true rfl) rfl ?_
                    refine zw_iinc 136 rfl dX11_steep_133 (Nat.le_of_ble_eq_true rfl) rfl rfl ?_
                    refine zw_goto 59 dX11_steep_136 (by decide) ?_
                    refine zw_drop 7 ?_
                    refine K2 _ ?_
                    rw [hc]
                    first
                    | (exfalso; omega)
                    | (rw [if_pos (show what = 1 by omega), Int.add_zero]; done)
                    | (rw [zSt2_n (by omega) (by omega) h_76]; unfold zmx; (repeat' split) <;> omega)
                    | (rw [if_neg (show ¬ what = 1 by omega), hy]; unfold zab zmx; (repeat' split) <;> omega)
                · refine zw_iload_n 84 rfl dX11_steep_83 rfl ?_
                  refine zw_iload 86 rfl dX11_steep_84 rfl ?_
                  refine zw_iconst 87 rfl dX11_steep_86 ?_
                  refine zw_iadd 88 rfl dX11_steep_87 ?_
                  refine zw_icmp_eq 94 91 rfl dX11_steep_88 (by decide) (by omega) (by omega) (fun h_88 => ?_) (fun h_88 => ?_)
                  · refine zw_aload_n 95 rfl dX11_steep_94 rfl ?_
                    refine zw_iload_n 96 rfl dX11_steep_95 rfl ?_
                    refine zw_iload 98 rfl dX11_steep_96 rfl ?_
                    refine zw_iload 100 rfl dX11_steep_98 rfl ?_
                    refine zw_cVi3 103 rfl dX11_steep_100 kX11_steep_182 (Nat.le_of_ble_eq_true rfl) (by first | assumption | exact zm_o0 | exact zm_o _ _ _ rfl) (m_dotP hq (by omega) (by omega)) ?_
                    refine zw_aload_n 104 rfl dX11_steep_103 rfl ?_
                    refine zw_iload_n 105 rfl dX11_steep_104 rfl ?_
                    refine zw_iload 107 rfl dX11_steep_105 rfl ?_
                    refine zw_iload 109 rfl dX11_steep_107 rfl ?_
                    refine zw_iload 111 rfl dX11_steep_109 rfl ?_
                    refine zw_cVi4 114 rfl dX11_steep_111 kX11_steep_347 (Nat.le_of_ble_eq_true rfl) (by first | assumption | exact zm_o0 | exact zm_o _ _ _ rfl) (m_other hq (by omega) (by omega) (by omega) h_76) ?_
                    refine zw_isub 115 rfl dX11_steep_114 ?_
                    refine zw_istore 117 rfl dX11_steep_115 (Nat.le_of_ble_eq_true rfl) rfl ?_
                    refine zw_iload_n 118 rfl dX11_steep_117 rfl ?_
                    refine zw_iload 120 rfl dX11_steep_118 rfl ?_
                    refine zw_if_ge 129 123 rfl dX11_steep_120 (by decide) (by omega) (fun h_120 => ?_) (fun h_120 => ?_)
                    · refine zw_iload 131 rfl dX11_steep_129 rfl ?_
                      refine zw_iadd 132 rfl dX11_steep_131 ?_
                      refine zw_istore_n 133 rfl dX11_steep_132 (Nat.le_of_ble_eq_true rfl) rfl ?_
                      refine zw_iinc 136 rfl dX11_steep_133 (Nat.le_of_ble_eq_true rfl) rfl rfl ?_
                      refine zw_goto 59 dX11_steep_136 (by decide) ?_
                      refine zw_drop 7 ?_
                      refine K2 _ ?_
                      rw [hc]
                      first
                      | (exfalso; omega)
                      | (rw [if_pos (show what = 1 by omega), Int.add_zero]; done)
                      | (rw [zSt2_n (by omega) (by omega) h_76]; unfold zmx; (repeat' split) <;> omega)
                      | (rw [if_neg (show ¬ what = 1 by omega), hy]; unfold zab zmx; (repeat' split) <;> omega)
                    · refine zw_iload 125 rfl dX11_steep_123 rfl ?_
                      refine zw_ineg 126 rfl dX11_steep_125 ?_
                      refine zw_goto 131 dX11_steep_126 (by decide) ?_
                      refine zw_iadd 132 rfl dX11_steep_131 ?_
                      refine zw_istore_n 133 rfl dX11_steep_132 (Nat.le_of_ble_eq_true rfl) rfl ?_
                      refine zw_iinc 136 rfl dX11_steep_133 (Nat.le_of_ble_eq_true rfl) rfl rfl ?_
                      refine zw_goto 59 dX11_steep_136 (by decide) ?_
                      refine zw_drop 7 ?_
                      refine K2 _ ?_
                      rw [hc]
                      first
                      | (exfalso; omega)
                      | (rw [if_pos (show what = 1 by omega), Int.add_zero]; done)
                      | (rw [zSt2_n (by omega) (by omega) h_76]; unfold zmx; (repeat' split) <;> omega)
                      | (rw [if_neg (show ¬ what = 1 by omega), hy]; unfold zab zmx; (repeat' split) <;> omega)
                  · refine zw_goto 133 dX11_steep_91 (by decide) ?_
                    refine zw_iinc 136 rfl dX11_steep_133 (Nat.le_of_ble_eq_true rfl) rfl rfl ?_
                    refine zw_goto 59 dX11_steep_136 (by decide) ?_
                    refine zw_drop 7 ?_
                    refine K2 _ ?_
                    rw [hc]
                    first
                    | (exfalso; omega)
                    | (rw [if_pos (show what = 1 by omega), Int.add_zero]; done)
                    | (rw [zSt2_n (by omega) (by omega) h_76]; unfold zmx; (repeat' split) <;> omega)
                    | (rw [if_neg (show ¬ what = 1 by omega), hy]; unfold zab zmx; (repeat' split) <;> omega)
        have K0 : zW G M_X11_steep (mQ C (sp_steep A p what)) 59 [some (.ref C), some (vi p), some (vi what), some (vi (zpt (A.1 p.toNat).1 F 0 j i)), some (vi j), some (vi i), some (vi 0), none] [] (zmS C, zu σ C 0 0, τ) := by
            refine zw_iload 61 rfl dX11_steep_59 rfl ?_
            refine zw_iconst 62 rfl dX11_steep_61 ?_
            refine zw_icmp_ge 139 65 rfl dX11_steep_62 (by decide) (by omega) (by omega) (fun h_62 => ?_) (fun h_62 => ?_)
            · omega
            · refine zw_aload_n 66 rfl dX11_steep_65 rfl ?_
              refine zw_iload_n 67 rfl dX11_steep_66 rfl ?_
              refine zw_iload 69 rfl dX11_steep_67 rfl ?_
              refine zw_iload 71 rfl dX11_steep_69 rfl ?_
              refine zw_iload 73 rfl dX11_steep_71 rfl ?_
              refine zw_cVi4 76 rfl dX11_steep_73 kX11_steep_344 (Nat.le_of_ble_eq_true rfl) (by first | assumption | exact zm_o0 | exact zm_o _ _ _ rfl) (m_hasNb hq (by omega) (by omega) (by omega)) ?_
              refine zw_if_eqB 133 79 rfl dX11_steep_76 (by decide) (fun h_76 => ?_) (fun h_76 => ?_)
              · refine zw_iinc 136 rfl dX11_steep_133 (Nat.le_of_ble_eq_true rfl) rfl rfl ?_
                refine zw_goto 59 dX11_steep_136 (by decide) ?_
                refine zw_drop 7 ?_
                refine K1 _ ?_
                first
                | (exfalso; omega)
                | (rw [if_pos (show what = 2 by omega), Int.add_zero]; done)
                | (rw [zSt2_n (by omega) (by omega) h_76]; unfold zmx; (repeat' split) <;> omega)
                | (rw [if_neg (show ¬ what = 2 by omega), hy]; unfold zab zmx; (repeat' split) <;> omega)
              · have ho := zOt_r hq (by omega) (by omega) h_76
                have hy := zSt2_y (by omega) (by omega) h_76
                refine zw_iload_n 80 rfl dX11_steep_79 rfl ?_
                refine zw_if_le 94 83 rfl dX11_steep_80 (by decide) (by omega) (fun h_80 => ?_) (fun h_80 => ?_)
                · refine zw_aload_n 95 rfl dX11_steep_94 rfl ?_
                  refine zw_iload_n 96 rfl dX11_steep_95 rfl ?_
                  refine zw_iload 98 rfl dX11_steep_96 rfl ?_
                  refine zw_iload 100 rfl dX11_steep_98 rfl ?_
                  refine zw_cVi3 103 rfl dX11_steep_100 kX11_steep_182 (Nat.le_of_ble_eq_true rfl) (by first | assumption | exact zm_o0 | exact zm_o _ _ _ rfl) (m_dotP hq (by omega) (by omega)) ?_
                  refine zw_aload_n 104 rfl dX11_steep_103 rfl ?_
                  refine zw_iload_n 105 rfl dX11_steep_104 rfl ?_
                  refine zw_iload 107 rfl dX11_steep_105 rfl ?_
                  refine zw_iload 109 rfl dX11_steep_107 rfl ?_
                  refine zw_iload 111 rfl dX11_steep_109 rfl ?_
                  refine zw_cVi4 114 rfl dX11_steep_111 kX11_steep_347 (Nat.le_of_ble_eq_true rfl) (by first | assumption | exact zm_o0 | exact zm_o _ _ _ rfl) (m_other hq (by omega) (by omega) (by omega) h_76) ?_
                  refine zw_isub 115 rfl dX11_steep_114 ?_
                  refine zw_istore 117 rfl dX11_steep_115 (Nat.le_of_ble_eq_true rfl) rfl ?_
                  refine zw_iload_n 118 rfl dX11_steep_117 rfl ?_
                  refine zw_iload 120 rfl dX11_steep_118 rfl ?_
                  refine zw_if_ge 129 123 rfl dX11_steep_120 (by decide) (by omega) (fun h_120 => ?_) (fun h_120 => ?_)
                  · refine zw_iload 131 rfl dX11_steep_129 rfl ?_
                    refine zw_iadd 132 rfl dX11_steep_131 ?_
                    refine zw_istore_n 133 rfl dX11_steep_132 (Nat.le_of_ble_eq_true rfl) rfl ?_
                    refine zw_iinc 136 rfl dX11_steep_133 (Nat.le_of_ble_eq_true rfl) rfl rfl ?_
                    refine zw_goto 59 dX11_steep_136 (by decide) ?_
                    refine zw_drop 7 ?_
                    refine K1 _ ?_
                    first
                    | (exfalso; omega)
                    | (rw [if_pos (show what = 2 by omega), Int.add_zero]; done)
                    | (rw [zSt2_n (by omega) (by omega) h_76]; unfold zmx; (repeat' split) <;> omega)
                    | (rw [if_neg (show ¬ what = 2 by omega), hy]; unfold zab zmx; (repeat' split) <;> omega)
                  · refine zw_iload 125 rfl dX11_steep_123 rfl ?_
                    refine zw_ineg 126 rfl dX11_steep_125 ?_
                    refine zw_goto 131 dX11_steep_126 (by decide) ?_
                    refine zw_iadd 132 rfl dX11_steep_131 ?_
                    refine zw_istore_n 133 rfl dX11_steep_132 (Nat.le_of_ble_eq_true rfl) rfl ?_
                    refine zw_iinc 136 rfl dX11_steep_133 (Nat.le_of_ble_eq_true rfl) rfl rfl ?_
                    refine zw_goto 59 dX11_steep_136 (by decide) ?_
                    refine zw_drop 7 ?_
                    refine K1 _ ?_
                    first
                    | (exfalso; omega)
                    | (rw [if_pos (show what = 2 by omega), Int.add_zero]; done)
                    | (rw [zSt2_n (by omega) (by omega) h_76]; unfold zmx; (repeat' split) <;> omega)
                    | (rw [if_neg (show ¬ what = 2 by omega), hy]; unfold zab zmx; (repeat' split) <;> omega)
                · refine zw_iload_n 84 rfl dX11_steep_83 rfl ?_
                  refine zw_iload 86 rfl dX11_steep_84 rfl ?_
                  refine zw_iconst 87 rfl dX11_steep_86 ?_
                  refine zw_iadd 88 rfl dX11_steep_87 ?_
                  refine zw_icmp_eq 94 91 rfl dX11_steep_88 (by decide) (by omega) (by omega) (fun h_88 => ?_) (fun h_88 => ?_)
                  · refine zw_aload_n 95 rfl dX11_steep_94 rfl ?_
                    refine zw_iload_n 96 rfl dX11_steep_95 rfl ?_
                    refine zw_iload 98 rfl dX11_steep_96 rfl ?_
                    refine zw_iload 100 rfl dX11_steep_98 rfl ?_
                    refine zw_cVi3 103 rfl dX11_steep_100 kX11_steep_182 (Nat.le_of_ble_eq_true rfl) (by first | assumption | exact zm_o0 | exact zm_o _ _ _ rfl) (m_dotP hq (by omega) (by omega)) ?_
                    refine zw_aload_n 104 rfl dX11_steep_103 rfl ?_
                    refine zw_iload_n 105 rfl dX11_steep_104 rfl ?_
                    refine zw_iload 107 rfl dX11_steep_105 rfl ?_
                    refine zw_iload 109 rfl dX11_steep_107 rfl ?_
                    refine zw_iload 111 rfl dX11_steep_109 rfl ?_
                    refine zw_cVi4 114 rfl dX11_steep_111 kX11_steep_347 (Nat.le_of_ble_eq_true rfl) (by first | assumption | exact zm_o0 | exact zm_o _ _ _ rfl) (m_other hq (by omega) (by omega) (by omega) h_76) ?_
                    refine zw_isub 115 rfl dX11_steep_114 ?_
                    refine zw_istore 117 rfl dX11_steep_115 (Nat.le_of_ble_eq_true rfl) rfl ?_
                    refine zw_iload_n 118 rfl dX11_steep_117 rfl ?_
                    refine zw_iload 120 rfl dX11_steep_118 rfl ?_
                    refine zw_if_ge 129 123 rfl dX11_steep_120 (by decide) (by omega) (fun h_120 => ?_) (fun h_120 => ?_)
                    · refine zw_iload 131 rfl dX11_steep_129 rfl ?_
                      refine zw_iadd 132 rfl dX11_steep_131 ?_
                      refine zw_istore_n 133 rfl dX11_steep_132 (Nat.le_of_ble_eq_true rfl) rfl ?_
                      refine zw_iinc 136 rfl dX11_steep_133 (Nat.le_of_ble_eq_true rfl) rfl rfl ?_
                      refine zw_goto 59 dX11_steep_136 (by decide) ?_
                      refine zw_drop 7 ?_
                      refine K1 _ ?_
                      first
                      | (exfalso; omega)
                      | (rw [if_pos (show what = 2 by omega), Int.add_zero]; done)
                      | (rw [zSt2_n (by omega) (by omega) h_76]; unfold zmx; (repeat' split) <;> omega)
                      | (rw [if_neg (show ¬ what = 2 by omega), hy]; unfold zab zmx; (repeat' split) <;> omega)
                    · refine zw_iload 125 rfl dX11_steep_123 rfl ?_
                      refine zw_ineg 126 rfl dX11_steep_125 ?_
                      refine zw_goto 131 dX11_steep_126 (by decide) ?_
                      refine zw_iadd 132 rfl dX11_steep_131 ?_
                      refine zw_istore_n 133 rfl dX11_steep_132 (Nat.le_of_ble_eq_true rfl) rfl ?_
                      refine zw_iinc 136 rfl dX11_steep_133 (Nat.le_of_ble_eq_true rfl) rfl rfl ?_
                      refine zw_goto 59 dX11_steep_136 (by decide) ?_
                      refine zw_drop 7 ?_
                      refine K1 _ ?_
                      first
                      | (exfalso; omega)
                      | (rw [if_pos (show what = 2 by omega), Int.add_zero]; done)
                      | (rw [zSt2_n (by omega) (by omega) h_76]; unfold zmx; (repeat' split) <;> omega)
                      | (rw [if_neg (show ¬ what = 2 by omega), hy]; unfold zab zmx; (repeat' split) <;> omega)
                  · refine zw_goto 133 dX11_steep_91 (by decide) ?_
                    refine zw_iinc 136 rfl dX11_steep_133 (Nat.le_of_ble_eq_true rfl) rfl rfl ?_
                    refine zw_goto 59 dX11_steep_136 (by decide) ?_
                    refine zw_drop 7 ?_
                    refine K1 _ ?_
                    first
                    | (exfalso; omega)
                    | (rw [if_pos (show what = 2 by omega), Int.add_zero]; done)
                    | (rw [zSt2_n (by omega) (by omega) h_76]; unfold zmx; (repeat' split) <;> omega)
                    | (rw [if_neg (show ¬ what = 2 by omega), hy]; unfold zab zmx; (repeat' split) <;> omega)
        refine zw_iload 48 rfl dX11_steep_46 rfl ?_
        refine zw_aload_n 49 rfl dX11_steep_48 rfl ?_
        refine zw_iload_n 50 rfl dX11_steep_49 rfl ?_
        refine zw_cVi1 53 rfl dX11_steep_50 kX11_steep_170 (Nat.le_of_ble_eq_true rfl) (by first | assumption | exact zm_o0 | exact zm_o _ _ _ rfl) (m_wideP hq) ?_
        refine zw_icmp_ge 145 56 rfl dX11_steep_53 (by decide) (by omega) (by omega) (fun h_53 => ?_) (fun h_53 => ?_)
        · omega
        · refine zw_iconst 57 rfl dX11_steep_56 ?_
          refine zw_istore 59 rfl dX11_steep_57 (Nat.le_of_ble_eq_true rfl) rfl ?_
          exact K0
      · intro j hj hO
        refine zw_iload 48 rfl dX11_steep_46 rfl ?_
        refine zw_aload_n 49 rfl dX11_steep_48 rfl ?_
        refine zw_iload_n 50 rfl dX11_steep_49 rfl ?_
        refine zw_cVi1 53 rfl dX11_steep_50 kX11_steep_170 (Nat.le_of_ble_eq_true rfl) (by first | assumption | exact zm_o0 | exact zm_o _ _ _ rfl) (m_wideP hq) ?_
        refine zw_icmp_ge 145 56 rfl dX11_steep_53 (by decide) (by omega) (by omega) (fun h_53 => ?_) (fun h_53 => ?_)
        · refine zw_iinc 148 rfl dX11_steep_145 (Nat.le_of_ble_eq_true rfl) rfl rfl ?_
          refine zw_goto 33 dX11_steep_148 (by decide) ?_
          refine zw_drop 5 ?_
          exact hO
        · omega
    refine zw_aload_n 1 rfl dX11_steep_0 rfl ?_
    refine zw_iconst 2 rfl dX11_steep_1 ?_
    refine zw_puti 5 rfl dX11_steep_2 fp_X11_85 (by first | assumption | exact zm_o0 | exact zm_o _ _ _ rfl) ?_
    refine zw_aload_n 6 rfl dX11_steep_5 rfl ?_
    refine zw_iload_n 7 rfl dX11_steep_6 rfl ?_
    refine zw_cVi1 10 rfl dX11_steep_7 kX11_steep_173 (Nat.le_of_ble_eq_true rfl) (by first | assumption | exact zm_o0 | exact zm_o _ _ _ rfl) (m_isPicture hP hp) ?_
    refine zw_if_eqB 22 13 rfl dX11_steep_10 (by decide) (fun h_10 => ?_) (fun h_10 => ?_)
    · first | exact absurd hc1 h_10 | exact absurd hc2 h_19
    · refine zw_iload_n 14 rfl dX11_steep_13 rfl ?_
      refine zw_iconst 15 rfl dX11_steep_14 ?_
      refine zw_iconst 16 rfl dX11_steep_15 ?_
      refine zw_cSi3 19 rfl dX11_steep_16 kX11_steep_106 (Nat.le_of_ble_eq_true rfl) (m_in (by omega) (by omega) (by omega)) ?_
      refine zw_if_neB 28 22 rfl dX11_steep_19 (by decide) (fun h_19 => ?_) (fun h_19 => ?_)
      · refine zw_iconst 29 rfl dX11_steep_28 ?_
        refine zw_istore_n 30 rfl dX11_steep_29 (Nat.le_of_ble_eq_true rfl) rfl ?_
        refine zw_iconst 31 rfl dX11_steep_30 ?_
        refine zw_istore 33 rfl dX11_steep_31 (Nat.le_of_ble_eq_true rfl) rfl ?_
        exact key
      · first | exact absurd hc1 h_10 | exact absurd hc2 h_19
  refine zw_aload_n 1 rfl dX11_steep_0 rfl ?_
  refine zw_iconst 2 rfl dX11_steep_1 ?_
  refine zw_puti 5 rfl dX11_steep_2 fp_X11_85 (by first | assumption | exact zm_o0 | exact zm_o _ _ _ rfl) ?_
  refine zw_aload_n 6 rfl dX11_steep_5 rfl ?_
  refine zw_iload_n 7 rfl dX11_steep_6 rfl ?_
  refine zw_cVi1 10 rfl dX11_steep_7 kX11_steep_173 (Nat.le_of_ble_eq_true rfl) (by first | assumption | exact zm_o0 | exact zm_o _ _ _ rfl) (m_isPicture hP hp) ?_
  refine zw_if_eqB 22 13 rfl dX11_steep_10 (by decide) (fun h_10 => ?_) (fun h_10 => ?_)
  · refine zw_aload_n 23 rfl dX11_steep_22 rfl ?_
    refine zw_iconst 24 rfl dX11_steep_23 ?_
    refine zw_cVi1 27 rfl dX11_steep_24 kX11_steep_147 (Nat.le_of_ble_eq_true rfl) (by first | assumption | exact zm_o0 | exact zm_o _ _ _ rfl) m_refused ?_
    exact zw_iret (st := []) dX11_steep_27 rfl (mRef h mThrown mScT.rf (by simp only [if_neg h_10, if_true, if_false]) (by omega))
  · refine zw_iload_n 14 rfl dX11_steep_13 rfl ?_
    refine zw_iconst 15 rfl dX11_steep_14 ?_
    refine zw_iconst 16 rfl dX11_steep_15 ?_
    refine zw_cSi3 19 rfl dX11_steep_16 kX11_steep_106 (Nat.le_of_ble_eq_true rfl) (m_in (by omega) (by omega) (by omega)) ?_
    refine zw_if_neB 28 22 rfl dX11_steep_19 (by decide) (fun h_19 => ?_) (fun h_19 => ?_)
    · exact absurd ⟨h_10, h_19⟩ hc
    · refine zw_aload_n 23 rfl dX11_steep_22 rfl ?_
      refine zw_iconst 24 rfl dX11_steep_23 ?_
      refine zw_cVi1 27 rfl dX11_steep_24 kX11_steep_147 (Nat.le_of_ble_eq_true rfl) (by first | assumption | exact zm_o0 | exact zm_o _ _ _ rfl) m_refused ?_
      exact zw_iret (st := []) dX11_steep_27 rfl (mRef h mThrown mScT.rf (by simp only [if_pos h_10, if_neg h_19, if_true, if_false]) (by omega))
/-! ===== pairs ===== -/
theorem m_comes {G : zG} {C : Nat} {σ τ : zSt} {σr : zSt} {cn a b : Int} {ct : Int → Int} (h : mSI C 23 46 σr 65535 cn ct σ) (hn : cn < 384) (ha : 0 ≤ a ∧ a ≤ 255) (hb : 0 ≤ b ∧ b ≤ 255) : zC G M_X11_comes [.ref C, vi a, vi b] (zmS C, σ, τ) (fun r w' => r = none ∧ ∃ σ' : zSt, w' = (zmS C, σ', τ) ∧ mSI C 23 46 σr 65535 (cn + 1) (fun u => ct u + if zcode a b = u then 1 else 0) σ') := by
  have h0 := h
  obtain ⟨h1, n, rfl, h3, h4, h5, h6⟩ := h
  refine zC_of 2 rfl (Nat.le_of_ble_eq_true rfl) ?_
  obtain ⟨v, hv⟩ : ∃ v, zcode a b = v := ⟨_, rfl⟩
  have hvr : 0 ≤ v ∧ v ≤ 65535 := by rw [← hv]; unfold zcode; split <;> omega
  rw [hv]
  have fin : ∀ (e : Nat) (σs : zSt), zsk (σ (C + 23)) (σs (C + 23)) n e v → (∀ b j, b ≠ C + 23 → σs b j = σ b j) → (e = 0 ∨ σ (C + 23) (e - 1) ≤ v) → zW G M_X11_comes (fun r w' => r = none ∧ ∃ σ' : zSt, w' = (zmS C, σ', τ) ∧ mSI C 23 46 σr 65535 ((n : Int) + 1) (fun u => ct u + if v = u then 1 else 0) σ') 69 [some (.ref C), some (vi a), some (vi b), some (vi v), some (vi e)] [] (zmS C, σs, τ) := by
    intro e σs hk hf he
    have hke := hk.1
    refine zw_aload_n 70 rfl dX11_comes_69 rfl ?_
    refine zw_getr 73 rfl dX11_comes_70 fl_X11_82 (by first | assumption | exact zm_o0 | exact zm_o _ _ _ rfl) (by first | assumption | exact zm_f _ _ rfl) ?_
    refine zw_iload 75 rfl dX11_comes_73 rfl ?_
    refine zw_iload_n 76 rfl dX11_comes_75 rfl ?_
    refine zw_iast 77 rfl dX11_comes_76 (by first | assumption | exact zm_o0 | exact zm_o _ _ _ rfl) (by omega) (by omega) ?_
    rw [Int.toNat_natCast]
    refine zw_aload_n 78 rfl dX11_comes_77 rfl ?_
    refine zw_dup 79 rfl dX11_comes_78 rfl ?_
    refine zw_geti 82 rfl dX11_comes_79 fl_X11_362 (by first | assumption | exact zm_o0 | exact zm_o _ _ _ rfl) ?_
    rw [zu_a _ _ (by omega), hf _ _ (by omega), h3]
    refine zw_iconst 83 rfl dX11_comes_82 ?_
    refine zw_iadd 84 rfl dX11_comes_83 ?_
    refine zw_puti 87 rfl dX11_comes_84 fp_X11_362 (by first | assumption | exact zm_o0 | exact zm_o _ _ _ rfl) ?_
    exact zw_vret (st := []) dX11_comes_87 rfl ⟨rfl, _, rfl, h0.ins (by omega) hk hf hvr he⟩
  have loop : ∀ (e : Nat) (σs : zSt), zsk (σ (C + 23)) (σs (C + 23)) n e v → (∀ b j, b ≠ C + 23 → σs b j = σ b j) → zW G M_X11_comes (fun r w' => r = none ∧ ∃ σ' : zSt, w' = (zmS C, σ', τ) ∧ mSI C 23 46 σr 65535 ((n : Int) + 1) (fun u => ct u + if v = u then 1 else 0) σ') 29 [some (.ref C), some (vi a), some (vi b), some (vi v), some (vi e)] [] (zmS C, σs, τ) := by
    intro e
    induction e with
    | zero =>
      intro σs hk hf
      refine zw_iload 31 rfl dX11_comes_29 rfl ?_
      refine zw_if_le 69 34 rfl dX11_comes_31 (by decide) (by omega) (fun h_31 => ?_) (fun h_31 => ?_)
      · exact fin 0 σs hk hf (Or.inl rfl)
      · exact absurd h_31 (by decide)
    | succ e ih =>
      intro σs hk hf
      have hke := hk.1
      have e1 := hk.2.1 e (by omega)
      have e2 := h5 e (by omega)
      have ix : (((e + 1 : Nat) : Int) - 1).toNat = e := by omega
      refine zw_iload 31 rfl dX11_comes_29 rfl ?_
      refine zw_if_le 69 34 rfl dX11_comes_31 (by decide) (by omega) (fun h_31 => ?_) (fun h_31 => ?_)
      · first
        | (exfalso; omega)
        | (rw [ix, e1] at h_44
           exact fin (e + 1) σs hk hf (Or.inr h_44))
      · refine zw_aload_n 35 rfl dX11_comes_34 rfl ?_
        refine zw_getr 38 rfl dX11_comes_35 fl_X11_82 (by first | assumption | exact zm_o0 | exact zm_o _ _ _ rfl) (by first | assumption | exact zm_f _ _ rfl) ?_
        refine zw_iload 40 rfl dX11_comes_38 rfl ?_
        refine zw_iconst 41 rfl dX11_comes_40 ?_
        refine zw_isub 42 rfl dX11_comes_41 ?_
        refine zw_iald 43 rfl dX11_comes_42 (by first | assumption | exact zm_o0 | exact zm_o _ _ _ rfl) (by omega) (by omega) ?_
        refine zw_iload_n 44 rfl dX11_comes_43 rfl ?_
        refine zw_icmp_le 69 47 rfl dX11_comes_44 (by decide) (by rw [ix, e1]; omega) (by omega) (fun h_44 => ?_) (fun h_44 => ?_)
        · first
          | (exfalso; omega)
          | (rw [ix, e1] at h_44
             exact fin (e + 1) σs hk hf (Or.inr h_44))
        · refine zw_aload_n 48 rfl dX11_comes_47 rfl ?_
          refine zw_getr 51 rfl dX11_comes_48 fl_X11_82 (by first | assumption | exact zm_o0 | exact zm_o _ _ _ rfl) (by first | assumption | exact zm_f _ _ rfl) ?_
          refine zw_iload 53 rfl dX11_comes_51 rfl ?_
          refine zw_aload_n 54 rfl dX11_comes_53 rfl ?_
          refine zw_getr 57 rfl dX11_comes_54 fl_X11_82 (by first | assumption | exact zm_o0 | exact zm_o _ _ _ rfl) (by first | assumption | exact zm_f _ _ rfl) ?_
          refine zw_iload 59 rfl dX11_comes_57 rfl ?_
          refine zw_iconst 60 rfl dX11_comes_59 ?_
          refine zw_isub 61 rfl dX11_comes_60 ?_
          refine zw_iald 62 rfl dX11_comes_61 (by first | assumption | exact zm_o0 | exact zm_o _ _ _ rfl) (by omega) (by omega) ?_
          rw [ix] at h_44 ⊢
          refine zw_iast 63 rfl dX11_comes_62 (by first | assumption | exact zm_o0 | exact zm_o _ _ _ rfl) (by omega) (by omega) ?_
          refine zw_iinc 66 rfl dX11_comes_63 (Nat.le_of_ble_eq_true rfl) rfl rfl ?_
          refine zw_goto 29 dX11_comes_66 (by decide) ?_
          rw [show ((e + 1 : Nat) : Int) + -1 = (e : Int) by omega, Int.toNat_natCast]
          refine ih _ ?_ (fun b j hb => by rw [zu_a _ _ hb]; exact hf b j hb)
          rw [zu_row2]
          exact zsk_step hk (by omega)
  refine zw_iload_n 1 rfl dX11_comes_0 rfl ?_
  refine zw_iload_n 2 rfl dX11_comes_1 rfl ?_
  refine zw_icmp_ge 15 5 rfl dX11_comes_2 (by decide) (by omega) (by omega) (fun h_2 => ?_) (fun h_2 => ?_)
  · refine zw_sipush 18 rfl dX11_comes_15 rfl ?_
    refine zw_iload_n 19 rfl dX11_comes_18 rfl ?_
    refine zw_imul 20 rfl dX11_comes_19 ?_
    refine zw_iload_n 21 rfl dX11_comes_20 rfl ?_
    refine zw_iadd 22 rfl dX11_comes_21 ?_
    first | (rw [show 256 * a + b = v by rw [← hv]; unfold zcode; rw [if_pos (by omega)]]) | (rw [show 256 * b + a = v by rw [← hv]; unfold zcode; rw [if_neg (by omega)]])
    refine zw_istore_n 23 rfl dX11_comes_22 (Nat.le_of_ble_eq_true rfl) rfl ?_
    refine zw_aload_n 24 rfl dX11_comes_23 rfl ?_
    refine zw_geti 27 rfl dX11_comes_24 fl_X11_362 (by first | assumption | exact zm_o0 | exact zm_o _ _ _ rfl) ?_
    rw [h3]
    refine zw_istore 29 rfl dX11_comes_27 (Nat.le_of_ble_eq_true rfl) rfl ?_
    exact loop n σ (zsk_0 _ _ _) (fun _ _ _ => rfl)
  · refine zw_sipush 8 rfl dX11_comes_5 rfl ?_
    refine zw_iload_n 9 rfl dX11_comes_8 rfl ?_
    refine zw_imul 10 rfl dX11_comes_9 ?_
    refine zw_iload_n 11 rfl dX11_comes_10 rfl ?_
    refine zw_iadd 12 rfl dX11_comes_11 ?_
    refine zw_goto 22 dX11_comes_12 (by decide) ?_
    first | (rw [show 256 * a + b = v by rw [← hv]; unfold zcode; rw [if_pos (by omega)]]) | (rw [show 256 * b + a = v by rw [← hv]; unfold zcode; rw [if_neg (by omega)]])
    refine zw_istore_n 23 rfl dX11_comes_22 (Nat.le_of_ble_eq_true rfl) rfl ?_
    refine zw_aload_n 24 rfl dX11_comes_23 rfl ?_
    refine zw_geti 27 rfl dX11_comes_24 fl_X11_362 (by first | assumption | exact zm_o0 | exact zm_o _ _ _ rfl) ?_
    rw [h3]
    refine zw_istore 29 rfl dX11_comes_27 (Nat.le_of_ble_eq_true rfl) rfl ?_
    exact loop n σ (zsk_0 _ _ _) (fun _ _ _ => rfl)
theorem zct_app (l : List Int) (e u : Int) : zct (fun k => (l ++ [e]).getD k 0) (l ++ [e]).length u = zct (fun k => l.getD k 0) l.length u + if e = u then 1 else 0 := by
  rw [List.length_append, List.length_singleton, zct_s]
  have h1 : zct (fun k => (l ++ [e]).getD k 0) l.length u = zct (fun k => l.getD k 0) l.length u := zct_c (fun j hj => by simp only [List.getD_eq_getElem?_getD]; rw [List.getElem?_append_left hj]) u
  rw [h1]
  have h2 : (l ++ [e]).getD l.length 0 = e := by simp
  rw [h2]
theorem mSI.app {C : Nat} {σr σs : zSt} {M e : Int} {l : List Int} (h : mSI C 23 46 σr M ((l.length : Int) + 1) (fun u => zct (fun k => l.getD k 0) l.length u + if e = u then 1 else 0) σs) : mSI C 23 46 σr M (l ++ [e]).length (fun u => zct (fun k => (l ++ [e]).getD k 0) (l ++ [e]).length u) σs := by
  simp only [zct_app]
  rw [List.length_append, List.length_singleton]
  exact h
theorem mSc2.prs {C : Nat} {σ σ' : zSt} (h : ∀ b j, b ≠ C + 23 → ¬ (b = C ∧ j = 46) → σ' b j = σ b j) : mSc2 C σ σ' := fun b j hk => h b j (by unfold mKey2 mKey at hk; omega) (by unfold mKey2 mKey at hk; omega)
theorem m_laysPairs {G : zG} {C : Nat} {σ τ : zSt} {p : Int} {q : zPc} (hq : mPc C σ p q) (hp5 : p ≤ 5) : zC G M_X11_laysPairs [.ref C, vi p] (zmS C, σ, τ) (fun r w' => r = none ∧ ∃ σ' : zSt, w' = (zmS C, σ', τ) ∧ mSI C 23 46 σ 65535 (aPL q).length (fun v => zct (fun k => (aPL q).getD k 0) (aPL q).length v) σ') := by
  have hw := hq.wh
  refine zC_of 3 rfl (Nat.le_of_ble_eq_true rfl) ?_
  have hE : ∀ F, (fun (x y : Int) (l : List Int) => (l ++ (if x + 1 < q.1 then [zcode (q.2.2 x y) (q.2.2 (x + 1) y)] else [])) ++ (if y + 1 < q.2.1 then [zcode (q.2.2 x y) (q.2.2 x (y + 1))] else [])) = F → aPL q = zpt q.1 F [] q.2.1.toNat 0 := fun F e => by subst e; exact zpt_e _ _ _ _
  generalize hF : (fun (x y : Int) (l : List Int) => (l ++ (if x + 1 < q.1 then [zcode (q.2.2 x y) (q.2.2 (x + 1) y)] else [])) ++ (if y + 1 < q.2.1 then [zcode (q.2.2 x y) (q.2.2 x (y + 1))] else [])) = F
  have hE := hE F hF
  have hF' : ∀ x y l, F x y l = (l ++ (if x + 1 < q.1 then [zcode (q.2.2 x y) (zOt q x y 0)] else [])) ++ (if y + 1 < q.2.1 then [zcode (q.2.2 x y) (zOt q x y 1)] else []) := fun x y l => by rw [← hF]; rfl
  have hlen : ∀ j i : Nat, (zpt q.1 F [] j i).length ≤ 2 * (j * q.1.toNat + i) := zpt_ind (fun n (l : List Int) => l.length ≤ 2 * n) (by simp) (fun n x y b hb => by rw [hF']; simp only [List.length_append]; split <;> split <;> simp <;> omega)
  have key : ∀ σs : zSt, mSI C 23 46 σ 65535 (zpt q.1 F [] 0 0).length (fun v => zct (fun k => (zpt q.1 F [] 0 0).getD k 0) (zpt q.1 F [] 0 0).length v) σs → zW G M_X11_laysPairs (fun r w' => r = none ∧ ∃ σ' : zSt, w' = (zmS C, σ', τ) ∧ mSI C 23 46 σ 65535 (aPL q).length (fun v => zct (fun k => (aPL q).getD k 0) (aPL q).length v) σ') 7 [some (.ref C), some (vi p), some (vi (0 : Nat)), none, none] [] (zmS C, σs, τ) := by
    refine zrows (w := q.1.toNat) (h := q.2.1.toNat) (O := fun j => ∀ σs : zSt, mSI C 23 46 σ 65535 (zpt q.1 F [] j 0).length (fun v => zct (fun k => (zpt q.1 F [] j 0).getD k 0) (zpt q.1 F [] j 0).length v) σs → zW G M_X11_laysPairs (fun r w' => r = none ∧ ∃ σ' : zSt, w' = (zmS C, σ', τ) ∧ mSI C 23 46 σ 65535 (aPL q).length (fun v => zct (fun k => (aPL q).getD k 0) (aPL q).length v) σ') 7 [some (.ref C), some (vi p), some (vi j), none, none] [] (zmS C, σs, τ)) (N := fun j i => ∀ σs : zSt, mSI C 23 46 σ 65535 (zpt q.1 F [] j i).length (fun v => zct (fun k => (zpt q.1 F [] j i).getD k 0) (zpt q.1 F [] j i).length v) σs → zW G M_X11_laysPairs (fun r w' => r = none ∧ ∃ σ' : zSt, w' = (zmS C, σ', τ) ∧ mSI C 23 46 σ 65535 (aPL q).length (fun v => zct (fun k => (aPL q).getD k 0) (aPL q).length v) σ') 18 [some (.ref C), some (vi p), some (vi j), some (vi i), none] [] (zmS C, σs, τ)) ?_ ?_ ?_ ?_
    · intro σs hl
      have hq2 : mPc C σs p q := hq.s (by omega) (mSc2.prs hl.1)
      refine zw_iload_n 8 rfl dX11_laysPairs_7 rfl ?_
      refine zw_aload_n 9 rfl dX11_laysPairs_8 rfl ?_
      refine zw_iload_n 10 rfl dX11_laysPairs_9 rfl ?_
      refine zw_cVi1 13 rfl dX11_laysPairs_10 kX11_laysPairs_176 (Nat.le_of_ble_eq_true rfl) (by first | assumption | exact zm_o0 | exact zm_o _ _ _ rfl) (m_highP hq2) ?_
      refine zw_icmp_ge 86 16 rfl dX11_laysPairs_13 (by decide) (by omega) (by omega) (fun h_13 => ?_) (fun h_13 => ?_)
      · exact zw_vret (st := []) dX11_laysPairs_86 rfl ⟨rfl, _, rfl, by rw [hE]; exact hl⟩
      · omega
    · intro j hj hN
      intro σs hl
      have hq2 : mPc C σs p q := hq.s (by omega) (mSc2.prs hl.1)
      refine zw_iload_n 8 rfl dX11_laysPairs_7 rfl ?_
      refine zw_aload_n 9 rfl dX11_laysPairs_8 rfl ?_
      refine zw_iload_n 10 rfl dX11_laysPairs_9 rfl ?_
      refine zw_cVi1 13 rfl dX11_laysPairs_10 kX11_laysPairs_176 (Nat.le_of_ble_eq_true rfl) (by first | assumption | exact zm_o0 | exact zm_o _ _ _ rfl) (m_highP hq2) ?_
      refine zw_icmp_ge 86 16 rfl dX11_laysPairs_13 (by decide) (by omega) (by omega) (fun h_13 => ?_) (fun h_13 => ?_)
      · omega
      · refine zw_iconst 17 rfl dX11_laysPairs_16 ?_
        refine zw_istore_n 18 rfl dX11_laysPairs_17 (Nat.le_of_ble_eq_true rfl) rfl ?_
        exact hN σs hl
    · intro j i hj hi hN
      intro σs hl
      have hq2 : mPc C σs p q := hq.s (by omega) (mSc2.prs hl.1)
      rw [zpt_s, hF'] at hN
      have hll := hlen j i
      have hb : j * q.1.toNat ≤ 11 * 16 := Nat.mul_le_mul (by omega) (by omega)
      generalize zpt q.1 F [] j i = l at *
      have K2 : ∀ σs : zSt, mSI C 23 46 σ 65535 ((l ++ (if (i : Int) + 1 < q.1 then [zcode (q.2.2 i j) (zOt q i j 0)] else [])) ++ (if (j : Int) + 1 < q.2.1 then [zcode (q.2.2 i j) (zOt q i j 1)] else [])).length (fun v => zct (fun k => ((l ++ (if (i : Int) + 1 < q.1 then [zcode (q.2.2 i j) (zOt q i j 0)] else [])) ++ (if (j : Int) + 1 < q.2.1 then [zcode (q.2.2 i j) (zOt q i j 1)] else [])).getD k 0) ((l ++ (if (i : Int) + 1 < q.1 then [zcode (q.2.2 i j) (zOt q i j 0)] else [])) ++ (if (j : Int) + 1 < q.2.1 then [zcode (q.2.2 i j) (zOt q i j 1)] else [])).length v) σs → zW G M_X11_laysPairs (fun r w' => r = none ∧ ∃ σ' : zSt, w' = (zmS C, σ', τ) ∧ mSI C 23 46 σ 65535 (aPL q).length (fun v => zct (fun k => (aPL q).getD k 0) (aPL q).length v) σ') 30 [some (.ref C), some (vi p), some (vi j), some (vi i), some (vi 2)] [] (zmS C, σs, τ) := by
        intro σs hl
        refine zw_iload 32 rfl dX11_laysPairs_30 rfl ?_
        refine zw_iconst 33 rfl dX11_laysPairs_32 ?_
        refine zw_icmp_ge 74 36 rfl dX11_laysPairs_33 (by decide) (by omega) (by omega) (fun h_33 => ?_) (fun h_33 => ?_)
        · refine zw_iinc 77 rfl dX11_laysPairs_74 (Nat.le_of_ble_eq_true rfl) rfl rfl ?_
          refine zw_goto 18 dX11_laysPairs_77 (by decide) ?_
          refine zw_drop 4 ?_
          exact hN σs hl
        · omega
      have K1 : ∀ σs : zSt, mSI C 23 46 σ 65535 (l ++ (if (i : Int) + 1 < q.1 then [zcode (q.2.2 i j) (zOt q i j 0)] else [])).length (fun v => zct (fun k => (l ++ (if (i : Int) + 1 < q.1 then [zcode (q.2.2 i j) (zOt q i j 0)] else [])).getD k 0) (l ++ (if (i : Int) + 1 < q.1 then [zcode (q.2.2 i j) (zOt q i j 0)] else [])).length v) σs → zW G M_X11_laysPairs (fun r w' => r = none ∧ ∃ σ' : zSt, w' = (zmS C, σ', τ) ∧ mSI C 23 46 σ 65535 (aPL q).length (fun v => zct (fun k => (aPL q).getD k 0) (aPL q).length v) σ') 30 [some (.ref C), some (vi p), some (vi j), some (vi i), some (vi 1)] [] (zmS C, σs, τ) := by
        intro σs hl
        have hq2 : mPc C σs p q := hq.s (by omega) (mSc2.prs hl.1)
        have hl1 : (l ++ (if (i : Int) + 1 < q.1 then [zcode (q.2.2 i j) (zOt q i j 0)] else [])).length ≤ l.length + 1 := by rw [List.length_append]; split <;> simp
        generalize (l ++ (if (i : Int) + 1 < q.1 then [zcode (q.2.2 i j) (zOt q i j 0)] else [])) = l1 at *
        refine zw_iload 32 rfl dX11_laysPairs_30 rfl ?_
        refine zw_iconst 33 rfl dX11_laysPairs_32 ?_
        refine zw_icmp_ge 74 36 rfl dX11_laysPairs_33 (by decide) (by omega) (by omega) (fun h_33 => ?_) (fun h_33 => ?_)
        · omega
        · refine zw_aload_n 37 rfl dX11_laysPairs_36 rfl ?_
          refine zw_iload_n 38 rfl dX11_laysPairs_37 rfl ?_
          refine zw_iload_n 39 rfl dX11_laysPairs_38 rfl ?_
          refine zw_iload_n 40 rfl dX11_laysPairs_39 rfl ?_
          refine zw_iload 42 rfl dX11_laysPairs_40 rfl ?_
          refine zw_cVi4 45 rfl dX11_laysPairs_42 kX11_laysPairs_344 (Nat.le_of_ble_eq_true rfl) (by first | assumption | exact zm_o0 | exact zm_o _ _ _ rfl) (m_hasNb hq2 (by omega) (by omega) (by omega)) ?_
          refine zw_if_eqB 68 48 rfl dX11_laysPairs_45 (by decide) (fun h_45 => ?_) (fun h_45 => ?_)
          · skip
            refine zw_iinc 71 rfl dX11_laysPairs_68 (Nat.le_of_ble_eq_true rfl) rfl rfl ?_
            refine zw_goto 30 dX11_laysPairs_71 (by decide) ?_
            first
            | (refine K2 σ3 ?_
               rw [if_pos hnb]
               exact hl3.app)
            | (refine K2 σs ?_
               rw [if_neg (fun q => h_45 (by unfold zNb; first | (rw [if_pos rfl]; exact q) | (rw [if_neg (by omega)]; exact q))), List.append_nil]
               exact hl)
          · have hnb := zNb_1 h_45 (by omega)
            refine zw_aload_n 49 rfl dX11_laysPairs_48 rfl ?_
            refine zw_aload_n 50 rfl dX11_laysPairs_49 rfl ?_
            refine zw_iload_n 51 rfl dX11_laysPairs_50 rfl ?_
            refine zw_iload_n 52 rfl dX11_laysPairs_51 rfl ?_
            refine zw_iload_n 53 rfl dX11_laysPairs_52 rfl ?_
            refine zw_cVi3 56 rfl dX11_laysPairs_53 kX11_laysPairs_182 (Nat.le_of_ble_eq_true rfl) (by first | assumption | exact zm_o0 | exact zm_o _ _ _ rfl) (m_dotP hq2 (by omega) (by omega)) ?_
            refine zw_aload_n 57 rfl dX11_laysPairs_56 rfl ?_
            refine zw_iload_n 58 rfl dX11_laysPairs_57 rfl ?_
            refine zw_iload_n 59 rfl dX11_laysPairs_58 rfl ?_
            refine zw_iload_n 60 rfl dX11_laysPairs_59 rfl ?_
            refine zw_iload 62 rfl dX11_laysPairs_60 rfl ?_
            refine zw_cVi4 65 rfl dX11_laysPairs_62 kX11_laysPairs_347 (Nat.le_of_ble_eq_true rfl) (by first | assumption | exact zm_o0 | exact zm_o _ _ _ rfl) (m_other hq2 (by omega) (by omega) (by omega) h_45) ?_
            refine zw_cVr2 68 rfl dX11_laysPairs_65 kX11_laysPairs_365 (Nat.le_of_ble_eq_true rfl) (by first | assumption | exact zm_o0 | exact zm_o _ _ _ rfl) (m_comes hl (by omega) (hq2.d (by omega) (by omega)) (zOt_r hq2 (by omega) (by omega) h_45)) ?_
            rintro _ _ ⟨rfl, σ3, rfl, hl3⟩
            skip
            refine zw_iinc 71 rfl dX11_laysPairs_68 (Nat.le_of_ble_eq_true rfl) rfl rfl ?_
            refine zw_goto 30 dX11_laysPairs_71 (by decide) ?_
            first
            | (refine K2 σ3 ?_
               rw [if_pos hnb]
               exact hl3.app)
            | (refine K2 σs ?_
               rw [if_neg (fun q => h_45 (by unfold zNb; first | (rw [if_pos rfl]; exact q) | (rw [if_neg (by omega)]; exact q))), List.append_nil]
               exact hl)
      have K0 : zW G M_X11_laysPairs (fun r w' => r = none ∧ ∃ σ' : zSt, w' = (zmS C, σ', τ) ∧ mSI C 23 46 σ 65535 (aPL q).length (fun v => zct (fun k => (aPL q).getD k 0) (aPL q).length v) σ') 30 [some (.ref C), some (vi p), some (vi j), some (vi i), some (vi 0)] [] (zmS C, σs, τ) := by
        refine zw_iload 32 rfl dX11_laysPairs_30 rfl ?_
        refine zw_iconst 33 rfl dX11_laysPairs_32 ?_
        refine zw_icmp_ge 74 36 rfl dX11_laysPairs_33 (by decide) (by omega) (by omega) (fun h_33 => ?_) (fun h_33 => ?_)
        · omega
        · refine zw_aload_n 37 rfl dX11_laysPairs_36 rfl ?_
          refine zw_iload_n 38 rfl dX11_laysPairs_37 rfl ?_
          refine zw_iload_n 39 rfl dX11_laysPairs_38 rfl ?_
          refine zw_iload_n 40 rfl dX11_laysPairs_39 rfl ?_
          refine zw_iload 42 rfl dX11_laysPairs_40 rfl ?_
          refine zw_cVi4 45 rfl dX11_laysPairs_42 kX11_laysPairs_344 (Nat.le_of_ble_eq_true rfl) (by first | assumption | exact zm_o0 | exact zm_o _ _ _ rfl) (m_hasNb hq2 (by omega) (by omega) (by omega)) ?_
          refine zw_if_eqB 68 48 rfl dX11_laysPairs_45 (by decide) (fun h_45 => ?_) (fun h_45 => ?_)
          · skip
            refine zw_iinc 71 rfl dX11_laysPairs_68 (Nat.le_of_ble_eq_true rfl) rfl rfl ?_
            refine zw_goto 30 dX11_laysPairs_71 (by decide) ?_
            first
            | (refine K1 σ3 ?_
               rw [if_pos hnb]
               exact hl3.app)
            | (refine K1 σs ?_
               rw [if_neg (fun q => h_45 (by unfold zNb; first | (rw [if_pos rfl]; exact q) | (rw [if_neg (by omega)]; exact q))), List.append_nil]
               exact hl)
          · have hnb := zNb_0 h_45 rfl
            refine zw_aload_n 49 rfl dX11_laysPairs_48 rfl ?_
            refine zw_aload_n 50 rfl dX11_laysPairs_49 rfl ?_
            refine zw_iload_n 51 rfl dX11_laysPairs_50 rfl ?_
            refine zw_iload_n 52 rfl dX11_laysPairs_51 rfl ?_
            refine zw_iload_n 53 rfl dX11_laysPairs_52 rfl ?_
            refine zw_cVi3 56 rfl dX11_laysPairs_53 kX11_laysPairs_182 (Nat.le_of_ble_eq_true rfl) (by first | assumption | exact zm_o0 | exact zm_o _ _ _ rfl) (m_dotP hq2 (by omega) (by omega)) ?_
            refine zw_aload_n 57 rfl dX11_laysPairs_56 rfl ?_
            refine zw_iload_n 58 rfl dX11_laysPairs_57 rfl ?_
            refine zw_iload_n 59 rfl dX11_laysPairs_58 rfl ?_
            refine zw_iload_n 60 rfl dX11_laysPairs_59 rfl ?_
            refine zw_iload 62 rfl dX11_laysPairs_60 rfl ?_
            refine zw_cVi4 65 rfl dX11_laysPairs_62 kX11_laysPairs_347 (Nat.le_of_ble_eq_true rfl) (by first | assumption | exact zm_o0 | exact zm_o _ _ _ rfl) (m_other hq2 (by omega) (by omega) (by omega) h_45) ?_
            refine zw_cVr2 68 rfl dX11_laysPairs_65 kX11_laysPairs_365 (Nat.le_of_ble_eq_true rfl) (by first | assumption | exact zm_o0 | exact zm_o _ _ _ rfl) (m_comes hl (by omega) (hq2.d (by omega) (by omega)) (zOt_r hq2 (by omega) (by omega) h_45)) ?_
            rintro _ _ ⟨rfl, σ3, rfl, hl3⟩
            skip
            refine zw_iinc 71 rfl dX11_laysPairs_68 (Nat.le_of_ble_eq_true rfl) rfl rfl ?_
            refine zw_goto 30 dX11_laysPairs_71 (by decide) ?_
            first
            | (refine K1 σ3 ?_
               rw [if_pos hnb]
               exact hl3.app)
            | (refine K1 σs ?_
               rw [if_neg (fun q => h_45 (by unfold zNb; first | (rw [if_pos rfl]; exact q) | (rw [if_neg (by omega)]; exact q))), List.append_nil]
               exact hl)
      refine zw_iload_n 19 rfl dX11_laysPairs_18 rfl ?_
      refine zw_aload_n 20 rfl dX11_laysPairs_19 rfl ?_
      refine zw_iload_n 21 rfl dX11_laysPairs_20 rfl ?_
      refine zw_cVi1 24 rfl dX11_laysPairs_21 kX11_laysPairs_170 (Nat.le_of_ble_eq_true rfl) (by first | assumption | exact zm_o0 | exact zm_o _ _ _ rfl) (m_wideP hq2) ?_
      refine zw_icmp_ge 80 27 rfl dX11_laysPairs_24 (by decide) (by omega) (by omega) (fun h_24 => ?_) (fun h_24 => ?_)
      · omega
      · refine zw_iconst 28 rfl dX11_laysPairs_27 ?_
        refine zw_istore 30 rfl dX11_laysPairs_28 (Nat.le_of_ble_eq_true rfl) rfl ?_
        exact K0
    · intro j hj hO
      intro σs hl
      have hq2 : mPc C σs p q := hq.s (by omega) (mSc2.prs hl.1)
      refine zw_iload_n 19 rfl dX11_laysPairs_18 rfl ?_
      refine zw_aload_n 20 rfl dX11_laysPairs_19 rfl ?_
      refine zw_iload_n 21 rfl dX11_laysPairs_20 rfl ?_
      refine zw_cVi1 24 rfl dX11_laysPairs_21 kX11_laysPairs_170 (Nat.le_of_ble_eq_true rfl) (by first | assumption | exact zm_o0 | exact zm_o _ _ _ rfl) (m_wideP hq2) ?_
      refine zw_icmp_ge 80 27 rfl dX11_laysPairs_24 (by decide) (by omega) (by omega) (fun h_24 => ?_) (fun h_24 => ?_)
      · refine zw_iinc 83 rfl dX11_laysPairs_80 (Nat.le_of_ble_eq_true rfl) rfl rfl ?_
        refine zw_goto 7 dX11_laysPairs_83 (by decide) ?_
        refine zw_drop 3 ?_
        exact hO σs hl
      · omega
  refine zw_aload_n 1 rfl dX11_laysPairs_0 rfl ?_
  refine zw_iconst 2 rfl dX11_laysPairs_1 ?_
  refine zw_puti 5 rfl dX11_laysPairs_2 fp_X11_362 (by first | assumption | exact zm_o0 | exact zm_o _ _ _ rfl) ?_
  refine zw_iconst 6 rfl dX11_laysPairs_5 ?_
  refine zw_istore_n 7 rfl dX11_laysPairs_6 (Nat.le_of_ble_eq_true rfl) rfl ?_
  exact key _ (mSI.start (by omega))
theorem mSI.ps {C : Nat} {σr σs : zSt} {q : zPc} (h : mSI C 23 46 σr 65535 (aPL q).length (fun v => zct (fun k => (aPL q).getD k 0) (aPL q).length v) σs) : σs C 46 = (aPL q).length ∧ ∀ k, k < (aPL q).length → σs (C + 23) k = aPS 65536 q k ∧ 0 ≤ aPS 65536 q k ∧ aPS 65536 q k ≤ 65535 := by
  obtain ⟨h1, n, h2, h3, h4, h5, h6⟩ := h
  have hn : n = (aPL q).length := by omega
  subst hn
  refine ⟨h3, fun k hk => ?_⟩
  have e := zsrt_k (M := 65536) h4 hk (fun j hj => by have := h5 j hj; omega)
  have e2 : σs (C + 23) k = aPS 65536 q k := by
    rw [e]; unfold aPS
    exact zrk_c 65536 0 _ (fun c _ _ => h6 c)
  rw [← e2]
  exact ⟨rfl, h5 k hk⟩
theorem aPL_len {q : zPc} (hw : (1 ≤ q.1 ∧ q.1 ≤ 16) ∧ 1 ≤ q.2.1 ∧ q.2.1 ≤ 12) : (aPL q).length ≤ 384 := by
  have h1 := zwin_ind (f := fun (x y : Int) (l : List Int) => (l ++ (if x + 1 < q.1 then [zcode (q.2.2 x y) (q.2.2 (x + 1) y)] else [])) ++ (if y + 1 < q.2.1 then [zcode (q.2.2 x y) (q.2.2 x (y + 1))] else [])) (x0 := 0) (x1 := q.1) (y0 := 0) (y1 := q.2.1) (a := []) (fun n (l : List Int) => l.length ≤ 2 * n) (by simp) (fun n x y b _ _ hb => by simp only [List.length_append]; split <;> split <;> simp <;> omega)
  have h2 := zz_nn hw.1 hw.2
  rw [show (q.2.1 - 0).toNat = q.2.1.toNat by omega, show (q.1 - 0).toNat = q.1.toNat by omega] at h1
  have h3 : (aPL q).length ≤ 2 * (q.2.1.toNat * q.1.toNat) := h1
  omega
theorem aRu_s (g : Nat → Int) (b0 : Int) (n : Nat) : aRu g b0 (n + 1) = aRuS g b0 n (aRu g b0 n) := rfl
theorem Y_pairs {G : zG} {C : Nat} {σ τ : zSt} {A : zA} {p : Int} (h : zmR C σ τ A) (hp : -2147483648 ≤ p ∧ p ≤ 2147483647) : zC G M_X11_pairs [.ref C, vi p] (zmS C, σ, τ) (mQ C (sp_pairs A p)) := by
  have hP := (mThrown (v := 0)).P h.p
  refine zC_of 2 rfl (Nat.le_of_ble_eq_true rfl) ?_
  have key : aTold A p → ∀ σs : zSt, mSI C 23 46 (zu σ C 0 0) 65535 (aPL (A.1 p.toNat)).length (fun v => zct (fun k => (aPL (A.1 p.toNat)).getD k 0) (aPL (A.1 p.toNat)).length v) σs → (aPL (A.1 p.toNat)).length ≤ 384 → zW G M_X11_pairs (mQ C (sp_pairs A p)) 28 [some (.ref C), some (vi p), some (vi (aRu (aPS 65536 (A.1 p.toNat)) 0 0).2.1), some (vi (0 : Nat))] [] (zmS C, σs, τ) := by
    intro hc σs hl hn
    obtain ⟨e1, e2⟩ := hl.ps
    have hs := mSc2.prs hl.1
    generalize hG : aPS 65536 (A.1 p.toNat) = g at *
    refine zloop (n := (aPL (A.1 p.toNat)).length) (L := fun k => zW G M_X11_pairs (mQ C (sp_pairs A p)) 28 [some (.ref C), some (vi p), some (vi (aRu g 0 k).2.1), some (vi k)] [] (zmS C, σs, τ)) ?_ ?_
    · skip
      refine zw_iload_n 29 rfl dX11_pairs_28 rfl ?_
      refine zw_aload_n 30 rfl dX11_pairs_29 rfl ?_
      refine zw_geti 33 rfl dX11_pairs_30 fl_X11_362 (by first | assumption | exact zm_o0 | exact zm_o _ _ _ rfl) ?_
      rw [e1]
      refine zw_icmp_ge 71 36 rfl dX11_pairs_33 (by decide) (by omega) (by omega) (fun h_33 => ?_) (fun h_33 => ?_)
      · refine zw_aload_n 72 rfl dX11_pairs_71 rfl ?_
        refine zw_iload_n 73 rfl dX11_pairs_72 rfl ?_
        refine zw_cVi1 76 rfl dX11_pairs_73 kX11_pairs_157 (Nat.le_of_ble_eq_true rfl) (by first | assumption | exact zm_o0 | exact zm_o _ _ _ rfl) m_good ?_
        exact zw_iret (st := []) dX11_pairs_76 rfl (mRead h (mThrown.tr hs.s) mScT.rf (if_pos hc) (by rw [hG]) rfl)
      · omega
    · intro k hk ih
      have ek := e2 k hk
      rw [aRu_s] at ih
      unfold aRuS at ih
      refine zw_iload_n 29 rfl dX11_pairs_28 rfl ?_
      refine zw_aload_n 30 rfl dX11_pairs_29 rfl ?_
      refine zw_geti 33 rfl dX11_pairs_30 fl_X11_362 (by first | assumption | exact zm_o0 | exact zm_o _ _ _ rfl) ?_
      rw [e1]
      refine zw_icmp_ge 71 36 rfl dX11_pairs_33 (by decide) (by omega) (by omega) (fun h_33 => ?_) (fun h_33 => ?_)
      · omega
      · refine zw_iload_n 37 rfl dX11_pairs_36 rfl ?_
        refine zw_iload_n 38 rfl dX11_pairs_37 rfl ?_
        refine zw_if_eq 58 41 rfl dX11_pairs_38 (by decide) (by omega) (fun h_38 => ?_) (fun h_38 => ?_)
        · refine zw_iconst 59 rfl dX11_pairs_58 ?_
          refine zw_goto 63 dX11_pairs_59 (by decide) ?_
          refine zw_iadd 64 rfl dX11_pairs_63 ?_
          refine zw_istore_n 65 rfl dX11_pairs_64 (Nat.le_of_ble_eq_true rfl) rfl ?_
          refine zw_iinc 68 rfl dX11_pairs_65 (Nat.le_of_ble_eq_true rfl) rfl rfl ?_
          refine zw_goto 28 dX11_pairs_68 (by decide) ?_
          first
          | (rw [if_neg (show ¬ (0 < k ∧ g k = g (k - 1)) by omega)] at ih; exact ih)
          | (rw [if_pos (show 0 < k ∧ g k = g (k - 1) by omega)] at ih; rw [Int.add_zero]; exact ih)
        · have ek1 := e2 (k - 1) (by omega)
          refine zw_aload_n 42 rfl dX11_pairs_41 rfl ?_
          refine zw_getr 45 rfl dX11_pairs_42 fl_X11_82 (by first | assumption | exact zm_o0 | exact zm_o _ _ _ rfl) (by first | assumption | exact zm_f _ _ rfl) ?_
          refine zw_iload_n 46 rfl dX11_pairs_45 rfl ?_
          refine zw_iald 47 rfl dX11_pairs_46 (by first | assumption | exact zm_o0 | exact zm_o _ _ _ rfl) (by omega) (by omega) ?_
          rw [Int.toNat_natCast, ek.1]
          refine zw_aload_n 48 rfl dX11_pairs_47 rfl ?_
          refine zw_getr 51 rfl dX11_pairs_48 fl_X11_82 (by first | assumption | exact zm_o0 | exact zm_o _ _ _ rfl) (by first | assumption | exact zm_f _ _ rfl) ?_
          refine zw_iload_n 52 rfl dX11_pairs_51 rfl ?_
          refine zw_iconst 53 rfl dX11_pairs_52 ?_
          refine zw_isub 54 rfl dX11_pairs_53 ?_
          refine zw_iald 55 rfl dX11_pairs_54 (by first | assumption | exact zm_o0 | exact zm_o _ _ _ rfl) (by omega) (by omega) ?_
          rw [show ((k : Int) - 1).toNat = k - 1 by omega, ek1.1]
          refine zw_icmp_eq 62 58 rfl dX11_pairs_55 (by decide) (by omega) (by omega) (fun h_55 => ?_) (fun h_55 => ?_)
          · refine zw_iconst 63 rfl dX11_pairs_62 ?_
            refine zw_iadd 64 rfl dX11_pairs_63 ?_
            refine zw_istore_n 65 rfl dX11_pairs_64 (Nat.le_of_ble_eq_true rfl) rfl ?_
            refine zw_iinc 68 rfl dX11_pairs_65 (Nat.le_of_ble_eq_true rfl) rfl rfl ?_
            refine zw_goto 28 dX11_pairs_68 (by decide) ?_
            first
            | (rw [if_neg (show ¬ (0 < k ∧ g k = g (k - 1)) by omega)] at ih; exact ih)
            | (rw [if_pos (show 0 < k ∧ g k = g (k - 1) by omega)] at ih; rw [Int.add_zero]; exact ih)
          · refine zw_iconst 59 rfl dX11_pairs_58 ?_
            refine zw_goto 63 dX11_pairs_59 (by decide) ?_
            refine zw_iadd 64 rfl dX11_pairs_63 ?_
            refine zw_istore_n 65 rfl dX11_pairs_64 (Nat.le_of_ble_eq_true rfl) rfl ?_
            refine zw_iinc 68 rfl dX11_pairs_65 (Nat.le_of_ble_eq_true rfl) rfl rfl ?_
            refine zw_goto 28 dX11_pairs_68 (by decide) ?_
            first
            | (rw [if_neg (show ¬ (0 < k ∧ g k = g (k - 1)) by omega)] at ih; exact ih)
            | (rw [if_pos (show 0 < k ∧ g k = g (k - 1) by omega)] at ih; rw [Int.add_zero]; exact ih)
  refine zw_aload_n 1 rfl dX11_pairs_0 rfl ?_
  refine zw_iconst 2 rfl dX11_pairs_1 ?_
  refine zw_puti 5 rfl dX11_pairs_2 fp_X11_85 (by first | assumption | exact zm_o0 | exact zm_o _ _ _ rfl) ?_
  refine zw_aload_n 6 rfl dX11_pairs_5 rfl ?_
  refine zw_iload_n 7 rfl dX11_pairs_6 rfl ?_
  refine zw_cVi1 10 rfl dX11_pairs_7 kX11_pairs_173 (Nat.le_of_ble_eq_true rfl) (by first | assumption | exact zm_o0 | exact zm_o _ _ _ rfl) (m_isPicture hP hp) ?_
  refine zw_if_neB 19 13 rfl dX11_pairs_10 (by decide) (fun h_10 => ?_) (fun h_10 => ?_)
  · refine zw_aload_n 20 rfl dX11_pairs_19 rfl ?_
    refine zw_iload_n 21 rfl dX11_pairs_20 rfl ?_
    refine zw_cVr1 24 rfl dX11_pairs_21 kX11_pairs_368 (Nat.le_of_ble_eq_true rfl) (by first | assumption | exact zm_o0 | exact zm_o _ _ _ rfl) (m_laysPairs (hP.pc h_10) (by omega)) ?_
    rintro _ _ ⟨rfl, σ3, rfl, hl⟩
    refine zw_iconst 25 rfl dX11_pairs_24 ?_
    refine zw_istore_n 26 rfl dX11_pairs_25 (Nat.le_of_ble_eq_true rfl) rfl ?_
    refine zw_iconst 27 rfl dX11_pairs_26 ?_
    refine zw_istore_n 28 rfl dX11_pairs_27 (Nat.le_of_ble_eq_true rfl) rfl ?_
    exact key h_10 σ3 hl (aPL_len (hP.pc h_10).wh)
  · refine zw_aload_n 14 rfl dX11_pairs_13 rfl ?_
    refine zw_iconst 15 rfl dX11_pairs_14 ?_
    refine zw_cVi1 18 rfl dX11_pairs_15 kX11_pairs_147 (Nat.le_of_ble_eq_true rfl) (by first | assumption | exact zm_o0 | exact zm_o _ _ _ rfl) m_refused ?_
    exact zw_iret (st := []) dX11_pairs_18 rfl (mRef h mThrown mScT.rf (by simp only [if_neg h_10, if_true, if_false]) (by omega))
theorem Y_pair {G : zG} {C : Nat} {σ τ : zSt} {A : zA} {p what : Int} (h : zmR C σ τ A) (hp : -2147483648 ≤ p ∧ p ≤ 2147483647) (hwhat : -2147483648 ≤ what ∧ what ≤ 2147483647) : zC G M_X11_pair [.ref C, vi p, vi what] (zmS C, σ, τ) (mQ C (sp_pair A p what)) := by
  have hP := (mThrown (v := 0)).P h.p
  refine zC_of 4 rfl (Nat.le_of_ble_eq_true rfl) ?_
  have key : aTold A p → (0 ≤ what ∧ what ≤ 2) → ∀ σs : zSt, mSI C 23 46 (zu σ C 0 0) 65535 (aPL (A.1 p.toNat)).length (fun v => zct (fun k => (aPL (A.1 p.toNat)).getD k 0) (aPL (A.1 p.toNat)).length v) σs → (aPL (A.1 p.toNat)).length ≤ 384 → zW G M_X11_pair (mQ C (sp_pair A p what)) 45 [some (.ref C), some (vi p), some (vi what), some (vi (if (0 : Nat) = 0 then -2 else (aRu (aPS 65536 (A.1 p.toNat)) 0 0).2.2.1)), some (vi (aRu (aPS 65536 (A.1 p.toNat)) 0 0).2.2.2), some (vi (aRu (aPS 65536 (A.1 p.toNat)) 0 0).1), some (vi (0 : Nat))] [] (zmS C, σs, τ) := by
    intro hc hc2 σs hl hn
    obtain ⟨e1, e2⟩ := hl.ps
    have hs := mSc2.prs hl.1
    have hv : ∀ n, n ≤ (aPL (A.1 p.toNat)).length → 0 ≤ (aRu (aPS 65536 (A.1 p.toNat)) 0 n).2.2.1 ∧ (aRu (aPS 65536 (A.1 p.toNat)) 0 n).2.2.1 ≤ 65535 := fun n hn => aRu_v (fun k hk => (e2 k (by omega)).2)
    generalize hG : aPS 65536 (A.1 p.toNat) = g at *
    refine zloop (n := (aPL (A.1 p.toNat)).length) (L := fun k => zW G M_X11_pair (mQ C (sp_pair A p what)) 45 [some (.ref C), some (vi p), some (vi what), some (vi (if k = 0 then -2 else (aRu g 0 k).2.2.1)), some (vi (aRu g 0 k).2.2.2), some (vi (aRu g 0 k).1), some (vi k)] [] (zmS C, σs, τ)) ?_ ?_
    · have hvn := hv _ (Nat.le_refl _)
      by_cases l0 : (aPL (A.1 p.toNat)).length = 0
      · rw [if_pos l0]
        refine zw_iload 47 rfl dX11_pair_45 rfl ?_
        refine zw_aload_n 48 rfl dX11_pair_47 rfl ?_
        refine zw_geti 51 rfl dX11_pair_48 fl_X11_362 (by first | assumption | exact zm_o0 | exact zm_o _ _ _ rfl) ?_
        rw [e1]
        refine zw_icmp_ge 116 54 rfl dX11_pair_51 (by decide) (by omega) (by omega) (fun h_51 => ?_) (fun h_51 => ?_)
        · refine zw_aload_n 117 rfl dX11_pair_116 rfl ?_
          refine zw_iload_n 118 rfl dX11_pair_117 rfl ?_
          refine zw_bipush 120 rfl dX11_pair_118 rfl ?_
          refine zw_icmp_ne 128 123 rfl dX11_pair_120 (by decide) (by omega) (by omega) (fun h_120 => ?_) (fun h_120 => ?_)
          · exact absurd rfl h_120
          · refine zw_bipush 125 rfl dX11_pair_123 rfl ?_
            refine zw_goto 155 dX11_pair_125 (by decide) ?_
            refine zw_cVi1 158 rfl dX11_pair_155 kX11_pair_157 (Nat.le_of_ble_eq_true rfl) (by first | assumption | exact zm_o0 | exact zm_o _ _ _ rfl) m_good ?_
            exact zw_iret (st := []) dX11_pair_158 rfl (mRead h (mThrown.tr hs.s) mScT.rf (by rw [if_pos hc, if_pos hc2]) (by show _ = if _ then _ else _; rw [if_pos l0]) rfl)
        · omega
      · rw [if_neg l0]
        refine zw_iload 47 rfl dX11_pair_45 rfl ?_
        refine zw_aload_n 48 rfl dX11_pair_47 rfl ?_
        refine zw_geti 51 rfl dX11_pair_48 fl_X11_362 (by first | assumption | exact zm_o0 | exact zm_o _ _ _ rfl) ?_
        rw [e1]
        refine zw_icmp_ge 116 54 rfl dX11_pair_51 (by decide) (by omega) (by omega) (fun h_51 => ?_) (fun h_51 => ?_)
        · refine zw_aload_n 117 rfl dX11_pair_116 rfl ?_
          refine zw_iload_n 118 rfl dX11_pair_117 rfl ?_
          refine zw_bipush 120 rfl dX11_pair_118 rfl ?_
          refine zw_icmp_ne 128 123 rfl dX11_pair_120 (by decide) (by omega) (by omega) (fun h_120 => ?_) (fun h_120 => ?_)
          · refine zw_iload_n 129 rfl dX11_pair_128 rfl ?_
            refine zw_if_ne 140 132 rfl dX11_pair_129 (by decide) (by omega) (fun h_129 => ?_) (fun h_129 => ?_)
            · refine zw_iload_n 141 rfl dX11_pair_140 rfl ?_
              refine zw_iconst 142 rfl dX11_pair_141 ?_
              refine zw_icmp_ne 153 145 rfl dX11_pair_142 (by decide) (by omega) (by omega) (fun h_142 => ?_) (fun h_142 => ?_)
              · refine zw_iload 155 rfl dX11_pair_153 rfl ?_
                refine zw_cVi1 158 rfl dX11_pair_155 kX11_pair_157 (Nat.le_of_ble_eq_true rfl) (by first | assumption | exact zm_o0 | exact zm_o _ _ _ rfl) m_good ?_
                exact zw_iret (st := []) dX11_pair_158 rfl (mRead h (mThrown.tr hs.s) mScT.rf (by rw [if_pos hc, if_pos hc2]) (by show _ = if _ then _ else _; rw [if_neg l0, hG]; first | (rw [if_pos h_129]; done) | (rw [if_neg h_129, if_pos h_142]; done) | (rw [if_neg h_129, if_neg h_142]; done)) rfl)
              · refine zw_iload_n 146 rfl dX11_pair_145 rfl ?_
                refine zw_sipush 149 rfl dX11_pair_146 rfl ?_
                refine zw_irem 150 rfl dX11_pair_149 (by omega) (by omega) ?_
                refine zw_goto 155 dX11_pair_150 (by decide) ?_
                refine zw_cVi1 158 rfl dX11_pair_155 kX11_pair_157 (Nat.le_of_ble_eq_true rfl) (by first | assumption | exact zm_o0 | exact zm_o _ _ _ rfl) m_good ?_
                exact zw_iret (st := []) dX11_pair_158 rfl (mRead h (mThrown.tr hs.s) mScT.rf (by rw [if_pos hc, if_pos hc2]) (by show _ = if _ then _ else _; rw [if_neg l0, hG]; first | (rw [if_pos h_129]; done) | (rw [if_neg h_129, if_pos h_142]; done) | (rw [if_neg h_129, if_neg h_142]; done)) rfl)
            · refine zw_iload_n 133 rfl dX11_pair_132 rfl ?_
              refine zw_sipush 136 rfl dX11_pair_133 rfl ?_
              refine zw_idiv 137 rfl dX11_pair_136 (by omega) (by omega) ?_
              refine zw_goto 155 dX11_pair_137 (by decide) ?_
              refine zw_cVi1 158 rfl dX11_pair_155 kX11_pair_157 (Nat.le_of_ble_eq_true rfl) (by first | assumption | exact zm_o0 | exact zm_o _ _ _ rfl) m_good ?_
              exact zw_iret (st := []) dX11_pair_158 rfl (mRead h (mThrown.tr hs.s) mScT.rf (by rw [if_pos hc, if_pos hc2]) (by show _ = if _ then _ else _; rw [if_neg l0, hG]; first | (rw [if_pos h_129]; done) | (rw [if_neg h_129, if_pos h_142]; done) | (rw [if_neg h_129, if_neg h_142]; done)) rfl)
          · omega
        · omega
    · intro k hk ih
      have ek := e2 k hk
      have hb := aRu_b (g := g) (n := k)
      have hv0 := hv k (by omega)
      rw [aRu_s, if_neg (by omega)] at ih
      unfold aRuS at ih
      have hz : k = 0 → (aRu g 0 k).2.2.2 = 0 := fun e => by subst e; rfl
      refine zw_iload 47 rfl dX11_pair_45 rfl ?_
      refine zw_aload_n 48 rfl dX11_pair_47 rfl ?_
      refine zw_geti 51 rfl dX11_pair_48 fl_X11_362 (by first | assumption | exact zm_o0 | exact zm_o _ _ _ rfl) ?_
      rw [e1]
      refine zw_icmp_ge 116 54 rfl dX11_pair_51 (by decide) (by omega) (by omega) (fun h_51 => ?_) (fun h_51 => ?_)
      · omega
      · refine zw_iload 56 rfl dX11_pair_54 rfl ?_
        refine zw_if_le 85 59 rfl dX11_pair_56 (by decide) (by omega) (fun h_56 => ?_) (fun h_56 => ?_)
        · refine zw_iconst 86 rfl dX11_pair_85 ?_
          refine zw_istore 88 rfl dX11_pair_86 (Nat.le_of_ble_eq_true rfl) rfl ?_
          refine zw_iload 90 rfl dX11_pair_88 rfl ?_
          refine zw_iload 92 rfl dX11_pair_90 rfl ?_
          refine zw_icmp_gt 98 95 rfl dX11_pair_92 (by decide) (by omega) (by omega) (fun h_92 => ?_) (fun h_92 => ?_)
          · refine zw_iload 100 rfl dX11_pair_98 rfl ?_
            refine zw_istore 102 rfl dX11_pair_100 (Nat.le_of_ble_eq_true rfl) rfl ?_
            refine zw_aload_n 103 rfl dX11_pair_102 rfl ?_
            refine zw_getr 106 rfl dX11_pair_103 fl_X11_82 (by first | assumption | exact zm_o0 | exact zm_o _ _ _ rfl) (by first | assumption | exact zm_f _ _ rfl) ?_
            refine zw_iload 108 rfl dX11_pair_106 rfl ?_
            refine zw_iald 109 rfl dX11_pair_108 (by first | assumption | exact zm_o0 | exact zm_o _ _ _ rfl) (by omega) (by omega) ?_
            rw [Int.toNat_natCast, ek.1]
            refine zw_istore_n 110 rfl dX11_pair_109 (Nat.le_of_ble_eq_true rfl) rfl ?_
            refine zw_iinc 113 rfl dX11_pair_110 (Nat.le_of_ble_eq_true rfl) rfl rfl ?_
            refine zw_goto 45 dX11_pair_113 (by decide) ?_
            first
            | (exfalso; omega)
            | (rw [if_pos (show 0 < k ∧ g k = g (k - 1) by omega)] at ih
               first
               | (rw [if_pos (by omega), if_pos (by omega)] at ih; exact ih)
               | (rw [if_neg (show ¬ (aRu g 0 k).2.2.2 < (aRu g 0 k).1 + 1 by omega), if_neg (show ¬ (aRu g 0 k).2.2.2 < (aRu g 0 k).1 + 1 by omega)] at ih; rw [if_neg (show ¬ k = 0 by omega)]; exact ih))
            | (rw [if_neg (show ¬ (0 < k ∧ g k = g (k - 1)) by omega)] at ih
               first
               | (rw [if_pos (show (aRu g 0 k).2.2.2 < 1 by omega), if_pos (show (aRu g 0 k).2.2.2 < 1 by omega)] at ih; exact ih)
               | (rw [if_neg (show ¬ (aRu g 0 k).2.2.2 < 1 by omega), if_neg (show ¬ (aRu g 0 k).2.2.2 < 1 by omega)] at ih; rw [if_neg (show ¬ k = 0 by omega)]; exact ih))
          · refine zw_goto 110 dX11_pair_95 (by decide) ?_
            refine zw_iinc 113 rfl dX11_pair_110 (Nat.le_of_ble_eq_true rfl) rfl rfl ?_
            refine zw_goto 45 dX11_pair_113 (by decide) ?_
            first
            | (exfalso; omega)
            | (rw [if_pos (show 0 < k ∧ g k = g (k - 1) by omega)] at ih
               first
               | (rw [if_pos (by omega), if_pos (by omega)] at ih; exact ih)
               | (rw [if_neg (show ¬ (aRu g 0 k).2.2.2 < (aRu g 0 k).1 + 1 by omega), if_neg (show ¬ (aRu g 0 k).2.2.2 < (aRu g 0 k).1 + 1 by omega)] at ih; rw [if_neg (show ¬ k = 0 by omega)]; exact ih))
            | (rw [if_neg (show ¬ (0 < k ∧ g k = g (k - 1)) by omega)] at ih
               first
               | (rw [if_pos (show (aRu g 0 k).2.2.2 < 1 by omega), if_pos (show (aRu g 0 k).2.2.2 < 1 by omega)] at ih; exact ih)
               | (rw [if_neg (show ¬ (aRu g 0 k).2.2.2 < 1 by omega), if_neg (show ¬ (aRu g 0 k).2.2.2 < 1 by omega)] at ih; rw [if_neg (show ¬ k = 0 by omega)]; exact ih))
        · have ek1 := e2 (k - 1) (by omega)
          refine zw_aload_n 60 rfl dX11_pair_59 rfl ?_
          refine zw_getr 63 rfl dX11_pair_60 fl_X11_82 (by first | assumption | exact zm_o0 | exact zm_o _ _ _ rfl) (by first | assumption | exact zm_f _ _ rfl) ?_
          refine zw_iload 65 rfl dX11_pair_63 rfl ?_
          refine zw_iald 66 rfl dX11_pair_65 (by first | assumption | exact zm_o0 | exact zm_o _ _ _ rfl) (by omega) (by omega) ?_
          rw [Int.toNat_natCast, ek.1]
          refine zw_aload_n 67 rfl dX11_pair_66 rfl ?_
          refine zw_getr 70 rfl dX11_pair_67 fl_X11_82 (by first | assumption | exact zm_o0 | exact zm_o _ _ _ rfl) (by first | assumption | exact zm_f _ _ rfl) ?_
          refine zw_iload 72 rfl dX11_pair_70 rfl ?_
          refine zw_iconst 73 rfl dX11_pair_72 ?_
          refine zw_isub 74 rfl dX11_pair_73 ?_
          refine zw_iald 75 rfl dX11_pair_74 (by first | assumption | exact zm_o0 | exact zm_o _ _ _ rfl) (by omega) (by omega) ?_
          rw [show ((k : Int) - 1).toNat = k - 1 by omega, ek1.1]
          refine zw_icmp_ne 85 78 rfl dX11_pair_75 (by decide) (by omega) (by omega) (fun h_75 => ?_) (fun h_75 => ?_)
          · refine zw_iconst 86 rfl dX11_pair_85 ?_
            refine zw_istore 88 rfl dX11_pair_86 (Nat.le_of_ble_eq_true rfl) rfl ?_
            refine zw_iload 90 rfl dX11_pair_88 rfl ?_
            refine zw_iload 92 rfl dX11_pair_90 rfl ?_
            refine zw_icmp_gt 98 95 rfl dX11_pair_92 (by decide) (by omega) (by omega) (fun h_92 => ?_) (fun h_92 => ?_)
            · refine zw_iload 100 rfl dX11_pair_98 rfl ?_
              refine zw_istore 102 rfl dX11_pair_100 (Nat.le_of_ble_eq_true rfl) rfl ?_
              refine zw_aload_n 103 rfl dX11_pair_102 rfl ?_
              refine zw_getr 106 rfl dX11_pair_103 fl_X11_82 (by first | assumption | exact zm_o0 | exact zm_o _ _ _ rfl) (by first | assumption | exact zm_f _ _ rfl) ?_
              refine zw_iload 108 rfl dX11_pair_106 rfl ?_
              refine zw_iald 109 rfl dX11_pair_108 (by first | assumption | exact zm_o0 | exact zm_o _ _ _ rfl) (by omega) (by omega) ?_
              rw [Int.toNat_natCast, ek.1]
              refine zw_istore_n 110 rfl dX11_pair_109 (Nat.le_of_ble_eq_true rfl) rfl ?_
              refine zw_iinc 113 rfl dX11_pair_110 (Nat.le_of_ble_eq_true rfl) rfl rfl ?_
              refine zw_goto 45 dX11_pair_113 (by decide) ?_
              first
              | (exfalso; omega)
              | (rw [if_pos (show 0 < k ∧ g k = g (k - 1) by omega)] at ih
                 first
                 | (rw [if_pos (by omega), if_pos (by omega)] at ih; exact ih)
                 | (rw [if_neg (show ¬ (aRu g 0 k).2.2.2 < (aRu g 0 k).1 + 1 by omega), if_neg (show ¬ (aRu g 0 k).2.2.2 < (aRu g 0 k).1 + 1 by omega)] at ih; rw [if_neg (show ¬ k = 0 by omega)]; exact ih))
              | (rw [if_neg (show ¬ (0 < k ∧ g k = g (k - 1)) by omega)] at ih
                 first
                 | (rw [if_pos (show (aRu g 0 k).2.2.2 < 1 by omega), if_pos (show (aRu g 0 k).2.2.2 < 1 by omega)] at ih; exact ih)
                 | (rw [if_neg (show ¬ (aRu g 0 k).2.2.2 < 1 by omega), if_neg (show ¬ (aRu g 0 k).2.2.2 < 1 by omega)] at ih; rw [if_neg (show ¬ k = 0 by omega)]; exact ih))
            · refine zw_goto 110 dX11_pair_95 (by decide) ?_
              refine zw_iinc 113 rfl dX11_pair_110 (Nat.le_of_ble_eq_true rfl) rfl rfl ?_
              refine zw_goto 45 dX11_pair_113 (by decide) ?_
              first
              | (exfalso; omega)
              | (rw [if_pos (show 0 < k ∧ g k = g (k - 1) by omega)] at ih
                 first
                 | (rw [if_pos (by omega), if_pos (by omega)] at ih; exact ih)
                 | (rw [if_neg (show ¬ (aRu g 0 k).2.2.2 < (aRu g 0 k).1 + 1 by omega), if_neg (show ¬ (aRu g 0 k).2.2.2 < (aRu g 0 k).1 + 1 by omega)] at ih; rw [if_neg (show ¬ k = 0 by omega)]; exact ih))
              | (rw [if_neg (show ¬ (0 < k ∧ g k = g (k - 1)) by omega)] at ih
                 first
                 | (rw [if_pos (show (aRu g 0 k).2.2.2 < 1 by omega), if_pos (show (aRu g 0 k).2.2.2 < 1 by omega)] at ih; exact ih)
                 | (rw [if_neg (show ¬ (aRu g 0 k).2.2.2 < 1 by omega), if_neg (show ¬ (aRu g 0 k).2.2.2 < 1 by omega)] at ih; rw [if_neg (show ¬ k = 0 by omega)]; exact ih))
          · refine zw_iload 80 rfl dX11_pair_78 rfl ?_
            refine zw_iconst 81 rfl dX11_pair_80 ?_
            refine zw_iadd 82 rfl dX11_pair_81 ?_
            refine zw_goto 86 dX11_pair_82 (by decide) ?_
            refine zw_istore 88 rfl dX11_pair_86 (Nat.le_of_ble_eq_true rfl) rfl ?_
            refine zw_iload 90 rfl dX11_pair_88 rfl ?_
            refine zw_iload 92 rfl dX11_pair_90 rfl ?_
            refine zw_icmp_gt 98 95 rfl dX11_pair_92 (by decide) (by omega) (by omega) (fun h_92 => ?_) (fun h_92 => ?_)
            · refine zw_iload 100 rfl dX11_pair_98 rfl ?_
              refine zw_istore 102 rfl dX11_pair_100 (Nat.le_of_ble_eq_true rfl) rfl ?_
              refine zw_aload_n 103 rfl dX11_pair_102 rfl ?_
              refine zw_getr 106 rfl dX11_pair_103 fl_X11_82 (by first | assumption | exact zm_o0 | exact zm_o _ _ _ rfl) (by first | assumption | exact zm_f _ _ rfl) ?_
              refine zw_iload 108 rfl dX11_pair_106 rfl ?_
              refine zw_iald 109 rfl dX11_pair_108 (by first | assumption | exact zm_o0 | exact zm_o _ _ _ rfl) (by omega) (by omega) ?_
              rw [Int.toNat_natCast, ek.1]
              refine zw_istore_n 110 rfl dX11_pair_109 (Nat.le_of_ble_eq_true rfl) rfl ?_
              refine zw_iinc 113 rfl dX11_pair_110 (Nat.le_of_ble_eq_true rfl) rfl rfl ?_
              refine zw_goto 45 dX11_pair_113 (by decide) ?_
              first
              | (exfalso; omega)
              | (rw [if_pos (show 0 < k ∧ g k = g (k - 1) by omega)] at ih
                 first
                 | (rw [if_pos (by omega), if_pos (by omega)] at ih; exact ih)
                 | (rw [if_neg (show ¬ (aRu g 0 k).2.2.2 < (aRu g 0 k).1 + 1 by omega), if_neg (show ¬ (aRu g 0 k).2.2.2 < (aRu g 0 k).1 + 1 by omega)] at ih; rw [if_neg (show ¬ k = 0 by omega)]; exact ih))
              | (rw [if_neg (show ¬ (0 < k ∧ g k = g (k - 1)) by omega)] at ih
                 first
                 | (rw [if_pos (show (aRu g 0 k).2.2.2 < 1 by omega), if_pos (show (aRu g 0 k).2.2.2 < 1 by omega)] at ih; exact ih)
                 | (rw [if_neg (show ¬ (aRu g 0 k).2.2.2 < 1 by omega), if_neg (show ¬ (aRu g 0 k).2.2.2 < 1 by omega)] at ih; rw [if_neg (show ¬ k = 0 by omega)]; exact ih))
            · refine zw_goto 110 dX11_pair_95 (by decide) ?_
              refine zw_iinc 113 rfl dX11_pair_110 (Nat.le_of_ble_eq_true rfl) rfl rfl ?_
              refine zw_goto 45 dX11_pair_113 (by decide) ?_
              first
              | (exfalso; omega)
              | (rw [if_pos (show 0 < k ∧ g k = g (k - 1) by omega)] at ih
                 first
                 | (rw [if_pos (by omega), if_pos (by omega)] at ih; exact ih)
                 | (rw [if_neg (show ¬ (aRu g 0 k).2.2.2 < (aRu g 0 k).1 + 1 by omega), if_neg (show ¬ (aRu g 0 k).2.2.2 < (aRu g 0 k).1 + 1 by omega)] at ih; rw [if_neg (show ¬ k = 0 by omega)]; exact ih))
              | (rw [if_neg (show ¬ (0 < k ∧ g k = g (k - 1)) by omega)] at ih
                 first
                 | (rw [if_pos (show (aRu g 0 k).2.2.2 < 1 by omega), if_pos (show (aRu g 0 k).2.2.2 < 1 by omega)] at ih; exact ih)
                 | (rw [if_neg (show ¬ (aRu g 0 k).2.2.2 < 1 by omega), if_neg (show ¬ (aRu g 0 k).2.2.2 < 1 by omega)] at ih; rw [if_neg (show ¬ k = 0 by omega)]; exact ih))
  refine zw_aload_n 1 rfl dX11_pair_0 rfl ?_
  refine zw_iconst 2 rfl dX11_pair_1 ?_
  refine zw_puti 5 rfl dX11_pair_2 fp_X11_85 (by first | assumption | exact zm_o0 | exact zm_o _ _ _ rfl) ?_
  refine zw_aload_n 6 rfl dX11_pair_5 rfl ?_
  refine zw_iload_n 7 rfl dX11_pair_6 rfl ?_
  refine zw_cVi1 10 rfl dX11_pair_7 kX11_pair_173 (Nat.le_of_ble_eq_true rfl) (by first | assumption | exact zm_o0 | exact zm_o _ _ _ rfl) (m_isPicture hP hp) ?_
  refine zw_if_eqB 22 13 rfl dX11_pair_10 (by decide) (fun h_10 => ?_) (fun h_10 => ?_)
  · refine zw_aload_n 23 rfl dX11_pair_22 rfl ?_
    refine zw_iconst 24 rfl dX11_pair_23 ?_
    refine zw_cVi1 27 rfl dX11_pair_24 kX11_pair_147 (Nat.le_of_ble_eq_true rfl) (by first | assumption | exact zm_o0 | exact zm_o _ _ _ rfl) m_refused ?_
    exact zw_iret (st := []) dX11_pair_27 rfl (mRef h mThrown mScT.rf (by simp only [if_neg h_10, if_true, if_false]) (by omega))
  · refine zw_iload_n 14 rfl dX11_pair_13 rfl ?_
    refine zw_iconst 15 rfl dX11_pair_14 ?_
    refine zw_iconst 16 rfl dX11_pair_15 ?_
    refine zw_cSi3 19 rfl dX11_pair_16 kX11_pair_106 (Nat.le_of_ble_eq_true rfl) (m_in (by omega) (by omega) (by omega)) ?_
    refine zw_if_neB 28 22 rfl dX11_pair_19 (by decide) (fun h_19 => ?_) (fun h_19 => ?_)
    · refine zw_aload_n 29 rfl dX11_pair_28 rfl ?_
      refine zw_iload_n 30 rfl dX11_pair_29 rfl ?_
      refine zw_cVr1 33 rfl dX11_pair_30 kX11_pair_368 (Nat.le_of_ble_eq_true rfl) (by first | assumption | exact zm_o0 | exact zm_o _ _ _ rfl) (m_laysPairs (hP.pc h_10) (by omega)) ?_
      rintro _ _ ⟨rfl, σ3, rfl, hl⟩
      refine zw_bipush 35 rfl dX11_pair_33 rfl ?_
      refine zw_istore_n 36 rfl dX11_pair_35 (Nat.le_of_ble_eq_true rfl) rfl ?_
      refine zw_iconst 37 rfl dX11_pair_36 ?_
      refine zw_istore 39 rfl dX11_pair_37 (Nat.le_of_ble_eq_true rfl) rfl ?_
      refine zw_iconst 40 rfl dX11_pair_39 ?_
      refine zw_istore 42 rfl dX11_pair_40 (Nat.le_of_ble_eq_true rfl) rfl ?_
      refine zw_iconst 43 rfl dX11_pair_42 ?_
      refine zw_istore 45 rfl dX11_pair_43 (Nat.le_of_ble_eq_true rfl) rfl ?_
      exact key h_10 h_19 σ3 hl (aPL_len (hP.pc h_10).wh)
    · refine zw_aload_n 23 rfl dX11_pair_22 rfl ?_
      refine zw_iconst 24 rfl dX11_pair_23 ?_
      refine zw_cVi1 27 rfl dX11_pair_24 kX11_pair_147 (Nat.le_of_ble_eq_true rfl) (by first | assumption | exact zm_o0 | exact zm_o _ _ _ rfl) m_refused ?_
      exact zw_iret (st := []) dX11_pair_27 rfl (mRef h mThrown mScT.rf (by simp only [if_pos h_10, if_neg h_19, if_true, if_false]) (by omega))
