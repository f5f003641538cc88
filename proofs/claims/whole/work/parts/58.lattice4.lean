def zNH (g : zGr) (i j k b : Int) : Int := if b = 0 then zwt g i j k else zsm g i j k
theorem zgift_far {v n z t : Int} (hv : 0 ≤ v / z ∧ v / z ≤ 31) (ht : 0 ≤ t ∧ t ≤ 3) (hn : ¬ (-64 ≤ n ∧ n ≤ 64)) : zgift v n z t = 0 := by
  unfold zgift
  rw [zecho_0 (by omega), zecho_0 (by omega)]; simp
theorem zz_q31 {v z : Int} (h : (0 ≤ v ∧ v ≤ 15 ∧ 1 ≤ z) ∨ (0 ≤ v ∧ v ≤ 255 ∧ 8 ≤ z)) : 0 ≤ v / z ∧ v / z ≤ 31 := by
  refine ⟨Int.ediv_nonneg (by omega) (by omega), ?_⟩
  rcases h with q | q
  · have := Int.ediv_le_self z q.1; omega
  · have := Int.ediv_lt_of_lt_mul (a := v) (b := 32) (c := z) (by omega) (by omega); omega
theorem zsumD_c {w h : Int} {f g : Int → Int → Int} (q : ∀ x y : Int, 0 ≤ x ∧ x < w → 0 ≤ y ∧ y < h → f x y = g x y) : zsumD w h f = zsumD w h g := zwin_cong (fun x y hx hy a => by rw [q x y hx hy])
theorem zsumD_0 {w h : Int} {f : Int → Int → Int} (q : ∀ x y : Int, 0 ≤ x ∧ x < w → 0 ≤ y ∧ y < h → f x y = 0) : zsumD w h f = 0 := zwin_ind (f := fun x y a => a + f x y) (fun _ a => a = 0) rfl (fun n x y b hx hy hb => by rw [hb, q x y hx hy]; rfl)
theorem zNH_far {g : zGr} {i j k b : Int} (hk : zGok g) (hf : ¬ (-64 ≤ i ∧ i ≤ 64) ∨ ¬ (-64 ≤ j ∧ j ≤ 64) ∨ ¬ (-64 ≤ k ∧ k ≤ 64)) : zNH g i j k b = 0 := by
  obtain ⟨k1, k2, k3, k4, k5, k6, k7, k8, k9, k10⟩ := hk
  have key : ∀ x y : Int, 0 ≤ x ∧ x < g.1.1 → 0 ≤ y ∧ y < g.1.2.1 → zgift x i g.2.2.1 g.2.2.2.2.1 * zgift y j g.2.2.1 g.2.2.2.2.2.1 * zgift (g.2.1.2.2 x y) k g.2.2.2.1 g.2.2.2.2.2.2 = 0 := fun x y hx hy => by
    have := k10 x y hx hy
    rcases hf with q | q | q
    · rw [zgift_far (zz_q31 (Or.inl (by omega))) k7 q]; simp
    · rw [zgift_far (v := y) (zz_q31 (Or.inl (by omega))) k8 q]; simp
    · rw [zgift_far (v := g.2.1.2.2 x y) (zz_q31 (Or.inr (by omega))) k9 q]; simp
  unfold zNH zwt zsm
  split
  · exact zsumD_0 key
  · exact zsumD_0 (fun x y hx hy => by rw [key x y hx hy]; simp)
theorem c_nodeHolds {G : zG} {S : zSh} {σ τ : zSt} {l : Nat} {g : zGr} {i j k b : Int} (hL : zLat S l) (hg : xrL σ l g) (hi : -2147483648 ≤ i ∧ i ≤ 2147483647) (hj : -2147483648 ≤ j ∧ j ≤ 2147483647) (hk : -2147483648 ≤ k ∧ k ≤ 2147483647) (hb : b = 0 ∨ b = 1) : zC G M_X1_nodeHolds [.ref l, vi i, vi j, vi k, vi b] (S, σ, τ) (zR (some (vl (zNH g i j k b))) (S, σ, τ)) := by
  obtain ⟨ho, hf0, hf1, hf2, hf3, hf4, hp1, hp3, ho5, ho6, ho7⟩ := id hL
  have ho1 := hp1.1
  have ho3 := hp3.1
  obtain ⟨hk, hP, hP2, hs, hr, hb0, hb1, hb2, hA, hD⟩ := id hg
  have hkk := hk
  unfold zGok at hk
  obtain ⟨k1, k2, k3, k4, k5, k6, k7, k8, k9, k10⟩ := hk
  have hwh := (hP.wh (by omega)).1
  have hwh2 := (hP2.wh (by omega)).1
  rw [k3, k4] at hwh2
  refine zC_of 8 rfl (Nat.le_of_ble_eq_true rfl) ?_
  have body : (-64 ≤ i ∧ i ≤ 64) → (-64 ≤ j ∧ j ≤ 64) → (-64 ≤ k ∧ k ≤ 64) → zW G M_X1_nodeHolds (zR (some (vl (zNH g i j k b))) (S, σ, τ)) 35 [some (.ref l), some (vi i), some (vi j), some (vi k), some (vi b), none, none, none, none, none, none, none, none] [] (S, σ, τ) := by
    intro hi hj hkr
    generalize hF : (fun (x y s : Int) => s + (if b = 0 then zgift y j g.2.2.1 g.2.2.2.2.2.1 * zgift x i g.2.2.1 g.2.2.2.2.1 * zgift (g.2.1.2.2 x y) k g.2.2.2.1 g.2.2.2.2.2.2 else zgift y j g.2.2.1 g.2.2.2.2.2.1 * zgift x i g.2.2.1 g.2.2.2.2.1 * zgift (g.2.1.2.2 x y) k g.2.2.2.1 g.2.2.2.2.2.2 * g.1.2.2 x y)) = F
    have hF' : ∀ x y s, F x y s = s + (if b = 0 then zgift y j g.2.2.1 g.2.2.2.2.2.1 * zgift x i g.2.2.1 g.2.2.2.2.1 * zgift (g.2.1.2.2 x y) k g.2.2.2.1 g.2.2.2.2.2.2 else zgift y j g.2.2.1 g.2.2.2.2.2.1 * zgift x i g.2.2.1 g.2.2.2.2.1 * zgift (g.2.1.2.2 x y) k g.2.2.2.1 g.2.2.2.2.2.2 * g.1.2.2 x y) := fun x y s => by rw [← hF]
    have hE : zNH g i j k b = zfold (fun (j : Nat) => zfold (fun (i : Nat) => F (0 + i) (0 + j)) g.1.1.toNat) g.1.2.1.toNat 0 := by
      have : zNH g i j k b = zwin 0 g.1.1 0 g.1.2.1 F 0 := by
        unfold zNH zwt zsm zsumD
        split
        · rename_i q; exact zwin_cong (fun x y hx hy a => by rw [hF', if_pos q]; simp only [Int.mul_comm (zgift x i _ _)])
        · rename_i q; exact zwin_cong (fun x y hx hy a => by rw [hF', if_neg q]; simp only [Int.mul_comm (zgift x i _ _)])
      rw [this]; unfold zwin; rw [Int.sub_zero, Int.sub_zero]
    generalize hO : (fun (j : Nat) => zfold (fun (i : Nat) => F (0 + i) (0 + j)) g.1.1.toNat) = O at hE
    have hO' : ∀ j c, O j c = zfold (fun (i : Nat) => F (0 + i) (0 + j)) g.1.1.toNat c := fun j c => by rw [← hO]
    have outer : ∀ (fu y : Nat), (y : Int) ≤ g.1.2.1 → g.1.2.1 - y < fu → zW G M_X1_nodeHolds (zR (some (vl (zNH g i j k b))) (S, σ, τ)) 41 [some (.ref l), some (vi i), some (vi j), some (vi k), some (vi b), some (vl (zfold O y 0)), none, some (vi y), none, none, none, none, none] [] (S, σ, τ) := by
      intro fu
      induction fu with
      | zero => intro y h1 h2; omega
      | succ fu ih =>
        intro y h1 h2
        generalize hI : (fun (i : Nat) => F (0 + i) (0 + y)) = I
        have hI' : ∀ x c, I x c = F x y c := fun x c => by rw [← hI]; show F (0 + (x : Int)) (0 + (y : Int)) c = _; rw [Int.zero_add, Int.zero_add]
        have inner : ∀ (fm x : Nat), (y : Int) < g.1.2.1 → (x : Int) ≤ g.1.1 → g.1.1 - x < fm → zW G M_X1_nodeHolds (zR (some (vl (zNH g i j k b))) (S, σ, τ)) 75 [some (.ref l), some (vi i), some (vi j), some (vi k), some (vi b), some (vl (zfold I x (zfold O y 0))), none, some (vi y), some (vl (zgift y j g.2.2.1 g.2.2.2.2.2.1)), none, some (vi x), none, none] [] (S, σ, τ) := by
          intro fm
          induction fm with
          | zero => intro x h3 h4 h5; omega
          | succ fm ihm =>
            intro x h3 h4 h5
            refine zw_iload 77 rfl dX1_nodeHolds_75 rfl ?_
            refine zw_aload_n 78 rfl dX1_nodeHolds_77 rfl ?_
            refine zw_getr 81 rfl dX1_nodeHolds_78 fl_X1_18 (by first | assumption | exact zx_o0 | exact zx_o _ _ _ rfl) (by first | assumption | exact zx_f0 _ _ rfl | exact zx_f _ _ _ rfl) ?_
            refine zw_geti 84 rfl dX1_nodeHolds_81 fl_X1_70 (by first | assumption | exact zx_o0 | exact zx_o _ _ _ rfl) ?_
            rw [hwh2.1]
            refine zw_icmp_ge 172 87 rfl dX1_nodeHolds_84 (by decide) (by omega) (by omega) (fun h_84 => ?_) (fun h_84 => ?_)
            · refine zw_iinc 175 rfl dX1_nodeHolds_172 (Nat.le_of_ble_eq_true rfl) rfl rfl ?_
              refine zw_goto 41 dX1_nodeHolds_175 (by decide) ?_
              refine zw_drop 8 ?_
              refine zw_drop 10 ?_
              have ih := ih (y + 1) (by omega) (by omega)
              simp only [zfold] at ih
              rw [hO', hI, show g.1.1.toNat = x by omega] at ih
              exact ih
            · have kk := k10 x y (by omega) (by omega)
              have r1 := zgift_r (v := x) (n := i) (z := g.2.2.1) (t := g.2.2.2.2.1) (by omega)
              have r2 := zgift_r (v := g.2.1.2.2 x y) (n := k) (z := g.2.2.2.1) (t := g.2.2.2.2.2.2) (by omega)
              refine zw_lload 89 rfl dX1_nodeHolds_87 rfl ?_
              refine zw_iload 91 rfl dX1_nodeHolds_89 rfl ?_
              refine zw_iload_n 92 rfl dX1_nodeHolds_91 rfl ?_
              refine zw_aload_n 93 rfl dX1_nodeHolds_92 rfl ?_
              refine zw_geti 96 rfl dX1_nodeHolds_93 fl_X1_31 (by first | assumption | exact zx_o0 | exact zx_o _ _ _ rfl) ?_
              rw [hs]
              refine zw_aload_n 97 rfl dX1_nodeHolds_96 rfl ?_
              refine zw_getr 100 rfl dX1_nodeHolds_97 fl_X1_21 (by first | assumption | exact zx_o0 | exact zx_o _ _ _ rfl) (by first | assumption | exact zx_f0 _ _ rfl | exact zx_f _ _ _ rfl) ?_
              refine zw_iconst 101 rfl dX1_nodeHolds_100 ?_
              refine zw_iald 102 rfl dX1_nodeHolds_101 (by first | assumption | exact zx_o0 | exact zx_o _ _ _ rfl) (by omega) (by omega) ?_
              rw [show (0 : Int).toNat = 0 from rfl, hb0]
              refine zw_cSi4 105 rfl dX1_nodeHolds_102 kX1_nodeHolds_66 (Nat.le_of_ble_eq_true rfl) (c_gift (by omega) (by omega) (by omega) (by omega)) ?_
              refine zw_i2l 106 rfl dX1_nodeHolds_105 (by omega) ?_
              refine zw_lmul 107 rfl dX1_nodeHolds_106 ?_
              refine zw_aload_n 108 rfl dX1_nodeHolds_107 rfl ?_
              refine zw_getr 111 rfl dX1_nodeHolds_108 fl_X1_18 (by first | assumption | exact zx_o0 | exact zx_o _ _ _ rfl) (by first | assumption | exact zx_f0 _ _ rfl | exact zx_f _ _ _ rfl) ?_
              refine zw_iload 113 rfl dX1_nodeHolds_111 rfl ?_
              refine zw_iload 115 rfl dX1_nodeHolds_113 rfl ?_
              refine zw_cVi2 118 rfl dX1_nodeHolds_115 kX1_nodeHolds_73 (Nat.le_of_ble_eq_true rfl) hp3.1 (c_shadeAt hp3 hP2.1 (by omega) (by omega)) ?_
              rw [hP2.dot (by omega) (by omega) (by omega)]
              refine zw_iload_n 119 rfl dX1_nodeHolds_118 rfl ?_
              refine zw_aload_n 120 rfl dX1_nodeHolds_119 rfl ?_
              refine zw_geti 123 rfl dX1_nodeHolds_120 fl_X1_39 (by first | assumption | exact zx_o0 | exact zx_o _ _ _ rfl) ?_
              rw [hr]
              refine zw_aload_n 124 rfl dX1_nodeHolds_123 rfl ?_
              refine zw_getr 127 rfl dX1_nodeHolds_124 fl_X1_21 (by first | assumption | exact zx_o0 | exact zx_o _ _ _ rfl) (by first | assumption | exact zx_f0 _ _ rfl | exact zx_f _ _ _ rfl) ?_
              refine zw_iconst 128 rfl dX1_nodeHolds_127 ?_
              refine zw_iald 129 rfl dX1_nodeHolds_128 (by first | assumption | exact zx_o0 | exact zx_o _ _ _ rfl) (by omega) (by omega) ?_
              rw [show (2 : Int).toNat = 2 from rfl, hb2]
              refine zw_cSi4 132 rfl dX1_nodeHolds_129 kX1_nodeHolds_66 (Nat.le_of_ble_eq_true rfl) (c_gift (by omega) (by omega) (by omega) (by omega)) ?_
              refine zw_i2l 133 rfl dX1_nodeHolds_132 (by omega) ?_
              refine zw_lmul 134 rfl dX1_nodeHolds_133 ?_
              refine zw_lstore 136 rfl dX1_nodeHolds_134 (Nat.le_of_ble_eq_true rfl) rfl ?_
              refine zw_lload 138 rfl dX1_nodeHolds_136 rfl ?_
              refine zw_iload 140 rfl dX1_nodeHolds_138 rfl ?_
              refine zw_if_eq 161 143 rfl dX1_nodeHolds_140 (by decide) (by omega) (fun h_140 => ?_) (fun h_140 => ?_)
              · refine zw_lload 163 rfl dX1_nodeHolds_161 rfl ?_
                refine zw_ladd 164 rfl dX1_nodeHolds_163 ?_
                refine zw_lstore 166 rfl dX1_nodeHolds_164 (Nat.le_of_ble_eq_true rfl) rfl ?_
                refine zw_iinc 169 rfl dX1_nodeHolds_166 (Nat.le_of_ble_eq_true rfl) rfl rfl ?_
                refine zw_goto 75 dX1_nodeHolds_169 (by decide) ?_
                refine zw_drop 11 ?_
                have ihm := ihm (x + 1) h3 (by omega) (by omega)
                simp only [zfold] at ihm
                rw [hI', hF'] at ihm
                first | (rw [if_pos h_140] at ihm; exact ihm) | (rw [if_neg h_140] at ihm; exact ihm)
              · refine zw_lload 145 rfl dX1_nodeHolds_143 rfl ?_
                refine zw_aload_n 146 rfl dX1_nodeHolds_145 rfl ?_
                refine zw_getr 149 rfl dX1_nodeHolds_146 fl_X1_12 (by first | assumption | exact zx_o0 | exact zx_o _ _ _ rfl) (by first | assumption | exact zx_f0 _ _ rfl | exact zx_f _ _ _ rfl) ?_
                refine zw_iload 151 rfl dX1_nodeHolds_149 rfl ?_
                refine zw_iload 153 rfl dX1_nodeHolds_151 rfl ?_
                refine zw_cVi2 156 rfl dX1_nodeHolds_153 kX1_nodeHolds_73 (Nat.le_of_ble_eq_true rfl) hp1.1 (c_shadeAt hp1 hP.1 (by omega) (by omega)) ?_
                rw [hP.dot (by omega) (by omega) (by omega)]
                refine zw_i2l 157 rfl dX1_nodeHolds_156 (by omega) ?_
                refine zw_lmul 158 rfl dX1_nodeHolds_157 ?_
                refine zw_goto 163 dX1_nodeHolds_158 (by decide) ?_
                refine zw_ladd 164 rfl dX1_nodeHolds_163 ?_
                refine zw_lstore 166 rfl dX1_nodeHolds_164 (Nat.le_of_ble_eq_true rfl) rfl ?_
                refine zw_iinc 169 rfl dX1_nodeHolds_166 (Nat.le_of_ble_eq_true rfl) rfl rfl ?_
                refine zw_goto 75 dX1_nodeHolds_169 (by decide) ?_
                refine zw_drop 11 ?_
                have ihm := ihm (x + 1) h3 (by omega) (by omega)
                simp only [zfold] at ihm
                rw [hI', hF'] at ihm
                first | (rw [if_pos h_140] at ihm; exact ihm) | (rw [if_neg h_140] at ihm; exact ihm)
        have r1 := zgift_r (v := y) (n := j) (z := g.2.2.1) (t := g.2.2.2.2.2.1) (by omega)
        refine zw_iload 43 rfl dX1_nodeHolds_41 rfl ?_
        refine zw_aload_n 44 rfl dX1_nodeHolds_43 rfl ?_
        refine zw_getr 47 rfl dX1_nodeHolds_44 fl_X1_18 (by first | assumption | exact zx_o0 | exact zx_o _ _ _ rfl) (by first | assumption | exact zx_f0 _ _ rfl | exact zx_f _ _ _ rfl) ?_
        refine zw_geti 50 rfl dX1_nodeHolds_47 fl_X1_63 (by first | assumption | exact zx_o0 | exact zx_o _ _ _ rfl) ?_
        rw [hwh2.2]
        refine zw_icmp_ge 178 53 rfl dX1_nodeHolds_50 (by decide) (by omega) (by omega) (fun h_50 => ?_) (fun h_50 => ?_)
        · refine zw_lload 180 rfl dX1_nodeHolds_178 rfl ?_
          exact zw_lretR dX1_nodeHolds_180 rfl (by rw [hE, show g.1.2.1.toNat = y by omega]) rfl
        · refine zw_iload 55 rfl dX1_nodeHolds_53 rfl ?_
          refine zw_iload_n 56 rfl dX1_nodeHolds_55 rfl ?_
          refine zw_aload_n 57 rfl dX1_nodeHolds_56 rfl ?_
          refine zw_geti 60 rfl dX1_nodeHolds_57 fl_X1_31 (by first | assumption | exact zx_o0 | exact zx_o _ _ _ rfl) ?_
          rw [hs]
          refine zw_aload_n 61 rfl dX1_nodeHolds_60 rfl ?_
          refine zw_getr 64 rfl dX1_nodeHolds_61 fl_X1_21 (by first | assumption | exact zx_o0 | exact zx_o _ _ _ rfl) (by first | assumption | exact zx_f0 _ _ rfl | exact zx_f _ _ _ rfl) ?_
          refine zw_iconst 65 rfl dX1_nodeHolds_64 ?_
          refine zw_iald 66 rfl dX1_nodeHolds_65 (by first | assumption | exact zx_o0 | exact zx_o _ _ _ rfl) (by omega) (by omega) ?_
          rw [show (1 : Int).toNat = 1 from rfl, hb1]
          refine zw_cSi4 69 rfl dX1_nodeHolds_66 kX1_nodeHolds_66 (Nat.le_of_ble_eq_true rfl) (c_gift (by omega) (by omega) (by omega) (by omega)) ?_
          refine zw_i2l 70 rfl dX1_nodeHolds_69 (by omega) ?_
          refine zw_lstore 72 rfl dX1_nodeHolds_70 (Nat.le_of_ble_eq_true rfl) rfl ?_
          refine zw_iconst 73 rfl dX1_nodeHolds_72 ?_
          refine zw_istore 75 rfl dX1_nodeHolds_73 (Nat.le_of_ble_eq_true rfl) rfl ?_
          exact inner (g.1.1.toNat + 1) 0 (by omega) (by omega) (by omega)
    refine zw_lconst 36 rfl dX1_nodeHolds_35 ?_
    refine zw_lstore 38 rfl dX1_nodeHolds_36 (Nat.le_of_ble_eq_true rfl) rfl ?_
    refine zw_iconst 39 rfl dX1_nodeHolds_38 ?_
    refine zw_istore 41 rfl dX1_nodeHolds_39 (Nat.le_of_ble_eq_true rfl) rfl ?_
    exact outer (g.1.2.1.toNat + 1) 0 (by omega) (by omega)
  refine zw_iload_n 1 rfl dX1_nodeHolds_0 rfl ?_
  refine zw_bipush 3 rfl dX1_nodeHolds_1 rfl ?_
  refine zw_bipush 5 rfl dX1_nodeHolds_3 rfl ?_
  refine zw_cSi3 8 rfl dX1_nodeHolds_5 kX1_nodeHolds_51 (Nat.le_of_ble_eq_true rfl) (c_within (by omega) (by omega) (by omega)) ?_
  refine zw_if_eqB 33 11 rfl dX1_nodeHolds_8 (by decide) (fun h_8 => ?_) (fun h_8 => ?_)
  · refine zw_lconst 34 rfl dX1_nodeHolds_33 ?_
    exact zw_lretR dX1_nodeHolds_34 rfl (by rw [zNH_far hkk (by first | exact Or.inl h_8 | exact Or.inr (Or.inl h_19) | exact Or.inr (Or.inr h_30))]; rfl) rfl
  · refine zw_iload_n 12 rfl dX1_nodeHolds_11 rfl ?_
    refine zw_bipush 14 rfl dX1_nodeHolds_12 rfl ?_
    refine zw_bipush 16 rfl dX1_nodeHolds_14 rfl ?_
    refine zw_cSi3 19 rfl dX1_nodeHolds_16 kX1_nodeHolds_51 (Nat.le_of_ble_eq_true rfl) (c_within (by omega) (by omega) (by omega)) ?_
    refine zw_if_eqB 33 22 rfl dX1_nodeHolds_19 (by decide) (fun h_19 => ?_) (fun h_19 => ?_)
    · refine zw_lconst 34 rfl dX1_nodeHolds_33 ?_
      exact zw_lretR dX1_nodeHolds_34 rfl (by rw [zNH_far hkk (by first | exact Or.inl h_8 | exact Or.inr (Or.inl h_19) | exact Or.inr (Or.inr h_30))]; rfl) rfl
    · refine zw_iload_n 23 rfl dX1_nodeHolds_22 rfl ?_
      refine zw_bipush 25 rfl dX1_nodeHolds_23 rfl ?_
      refine zw_bipush 27 rfl dX1_nodeHolds_25 rfl ?_
      refine zw_cSi3 30 rfl dX1_nodeHolds_27 kX1_nodeHolds_51 (Nat.le_of_ble_eq_true rfl) (c_within (by omega) (by omega) (by omega)) ?_
      refine zw_if_neB 35 33 rfl dX1_nodeHolds_30 (by decide) (fun h_30 => ?_) (fun h_30 => ?_)
      · exact body h_8 h_19 h_30
      · refine zw_lconst 34 rfl dX1_nodeHolds_33 ?_
        exact zw_lretR dX1_nodeHolds_34 rfl (by rw [zNH_far hkk (by first | exact Or.inl h_8 | exact Or.inr (Or.inl h_19) | exact Or.inr (Or.inr h_30))]; rfl) rfl
