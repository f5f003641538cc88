theorem mRdW {C g : Nat} {τ : zSt} {A : zGr} {x y v s r : Int} (hd : mGd C τ g A) (hx : 0 ≤ x ∧ x ≤ 15) (hy : 0 ≤ y ∧ y ≤ 11) (hv : 0 ≤ v ∧ v ≤ 255) (hs : 1 ≤ s ∧ s ≤ 8) (hr : 8 ≤ r ∧ r ≤ 128) (es : A.2.2.1 = s) (er : A.2.2.2.1 = r) : zS (fun m => mPt x y v s r m * τ (C + 11) (17043 * g + mNd x y v s r m)) 8 = zRW A x y v ∧ zS (fun m => mPt x y v s r m * τ (C + 12) (17043 * g + mNd x y v s r m)) 8 = zRS A x y v := by
  have hn := fun (m : Nat) (hm : m < 8) => mNd_r (m := m) hx hy hv hs hr hm
  constructor
  · rw [mRd8 (A := A) x y v s r es er (fun _ _ => 1) (fun m hm => by
      have q := hn m hm
      rw [(hd _ q.1).1, q.2.1, q.2.2.1, q.2.2.2]
      unfold zwt
      rw [es, er]
      exact zsumD_c (fun u w _ _ => by rw [Int.mul_one]))]
    unfold zRW
    rw [es, er]
    exact zsumD_c (fun u w _ _ => by rw [Int.mul_one])
  · rw [mRd8 (A := A) x y v s r es er (fun u w => A.1.2.2 u w) (fun m hm => by
      have q := hn m hm
      rw [(hd _ q.1).2, q.2.1, q.2.2.1, q.2.2.2]
      unfold zsm
      rw [es, er])]
    unfold zRS
    rw [es, er]
theorem m_reads {G : zG} {C : Nat} {σ τ : zSt} {g : Nat} {A : zGr} {x y v s r : Int} (h : mSR C σ g s r) (hd : mGd C τ g A) (es : A.2.2.1 = s) (er : A.2.2.2.1 = r) (hx : 0 ≤ x ∧ x ≤ 15) (hy : 0 ≤ y ∧ y ≤ 11) (hv : 0 ≤ v ∧ v ≤ 255) : zC G M_X11_reads [.ref C, vi (g : Int), vi x, vi y, vi v] (zmS C, σ, τ) (fun u w' => u = none ∧ ∃ σ' τ' : zSt, w' = (zmS C, σ', τ') ∧ mFr C σ σ' ∧ (∀ b j, ¬ (b = C ∧ (j = 37 ∨ j = 38)) → τ' b j = τ b j) ∧ τ' C 37 = zRS A x y v ∧ τ' C 38 = zRW A x y v) := by
  have hg := h.1
  have hs := h.2.2.2.1
  have hr := h.2.2.2.2
  refine zC_of 1 rfl (Nat.le_of_ble_eq_true rfl) ?_
  have K : ∀ σ3 : zSt, mFr C σ σ3 → mLy C x y v s r σ3 → ∀ τ3 : zSt, (∀ b j, ¬ (b = C ∧ (j = 37 ∨ j = 38)) → τ3 b j = τ b j) → τ3 C 37 = zS (fun m => mPt x y v s r m * τ (C + 12) (17043 * g + mNd x y v s r m)) 0 → τ3 C 38 = zS (fun m => mPt x y v s r m * τ (C + 11) (17043 * g + mNd x y v s r m)) 0 → zW G M_X11_reads (fun u w' => u = none ∧ ∃ σ' τ' : zSt, w' = (zmS C, σ', τ') ∧ mFr C σ σ' ∧ (∀ b j, ¬ (b = C ∧ (j = 37 ∨ j = 38)) → τ' b j = τ b j) ∧ τ' C 37 = zRS A x y v ∧ τ' C 38 = zRW A x y v) 22 [some (.ref C), some (vi (g : Int)), some (vi x), some (vi y), some (vi v), some (vi (0 : Nat))] [] (zmS C, σ3, τ3) := by
    intro σ3 f3 l3
    have hsr3 : mSR C σ3 g s r := ⟨hg, by rw [f3 _ _ (by omega)]; exact h.2.1, by rw [f3 _ _ (by omega)]; exact h.2.2.1, hs, hr⟩
    refine zloop (n := 8) (L := fun m => ∀ τ3 : zSt, (∀ b j, ¬ (b = C ∧ (j = 37 ∨ j = 38)) → τ3 b j = τ b j) → τ3 C 37 = zS (fun m => mPt x y v s r m * τ (C + 12) (17043 * g + mNd x y v s r m)) m → τ3 C 38 = zS (fun m => mPt x y v s r m * τ (C + 11) (17043 * g + mNd x y v s r m)) m → zW G M_X11_reads (fun u w' => u = none ∧ ∃ σ' τ' : zSt, w' = (zmS C, σ', τ') ∧ mFr C σ σ' ∧ (∀ b j, ¬ (b = C ∧ (j = 37 ∨ j = 38)) → τ' b j = τ b j) ∧ τ' C 37 = zRS A x y v ∧ τ' C 38 = zRW A x y v) 22 [some (.ref C), some (vi (g : Int)), some (vi x), some (vi y), some (vi v), some (vi m)] [] (zmS C, σ3, τ3)) ?_ ?_
    · intro τ3 t1 t2 t3
      have e := mRdW hd hx hy hv hs hr es er
      rw [e.2] at t2
      rw [e.1] at t3
      refine zw_iload 24 rfl dX11_reads_22 rfl ?_
      refine zw_bipush 26 rfl dX11_reads_24 rfl ?_
      refine zw_icmp_ge 118 29 rfl dX11_reads_26 (by decide) (by omega) (by omega) (fun h_26 => ?_) (fun h_26 => ?_)
      · exact zw_vret (st := []) dX11_reads_118 rfl ⟨rfl, _, _, rfl, f3, t1, t2, t3⟩
      · exfalso; omega
    · intro m hm ih τ3 t1 t2 t3
      have hnr := mNd_r (m := m) hx hy hv hs hr hm
      have hpr := mPt_r (x := x) (y := y) (v := v) (m := m) hs hr
      have hix : (17043 * (g : Int) + (mNd x y v s r m : Nat)).toNat = 17043 * g + mNd x y v s r m := by omega
      rw [zS_s, zS_s] at ih
      refine zw_iload 24 rfl dX11_reads_22 rfl ?_
      refine zw_bipush 26 rfl dX11_reads_24 rfl ?_
      refine zw_icmp_ge 118 29 rfl dX11_reads_26 (by decide) (by omega) (by omega) (fun h_26 => ?_) (fun h_26 => ?_)
      · exfalso; omega
      · refine zw_aload_n 30 rfl dX11_reads_29 rfl ?_
        refine zw_iload_n 31 rfl dX11_reads_30 rfl ?_
        refine zw_iload 33 rfl dX11_reads_31 rfl ?_
        refine zw_cVi2 36 rfl dX11_reads_33 kX11_reads_237 (Nat.le_of_ble_eq_true rfl) (by first | assumption | exact zm_o0 | exact zm_o _ _ _ rfl) (m_partOf hsr3 l3 hm) ?_
        refine zw_lconst 37 rfl dX11_reads_36 ?_
        refine zw_lcmp 38 rfl dX11_reads_37 (by omega) (by omega) ?_
        refine zw_if_ne 44 41 rfl dX11_reads_38 (by decide) (by (repeat' split) <;> omega) (fun h_38 => ?_) (fun h_38 => ?_)
        · refine zw_aload_n 45 rfl dX11_reads_44 rfl ?_
          refine zw_dup 46 rfl dX11_reads_45 rfl ?_
          refine zw_getl 49 rfl dX11_reads_46 fl_X11_256 (by first | assumption | exact zm_o0 | exact zm_o _ _ _ rfl) ?_
          rw [t2]
          refine zw_aload_n 50 rfl dX11_reads_49 rfl ?_
          refine zw_iload_n 51 rfl dX11_reads_50 rfl ?_
          refine zw_iload 53 rfl dX11_reads_51 rfl ?_
          refine zw_cVi2 56 rfl dX11_reads_53 kX11_reads_237 (Nat.le_of_ble_eq_true rfl) (by first | assumption | exact zm_o0 | exact zm_o _ _ _ rfl) (m_partOf hsr3 l3 hm) ?_
          refine zw_aload_n 57 rfl dX11_reads_56 rfl ?_
          refine zw_getr 60 rfl dX11_reads_57 fl_X11_49 (by first | assumption | exact zm_o0 | exact zm_o _ _ _ rfl) (by first | assumption | exact zm_f _ _ rfl) ?_
          refine zw_sipush 63 rfl dX11_reads_60 rfl ?_
          refine zw_iload_n 64 rfl dX11_reads_63 rfl ?_
          refine zw_imul 65 rfl dX11_reads_64 ?_
          refine zw_aload_n 66 rfl dX11_reads_65 rfl ?_
          refine zw_iload 68 rfl dX11_reads_66 rfl ?_
          refine zw_cVi1 71 rfl dX11_reads_68 kX11_reads_234 (Nat.le_of_ble_eq_true rfl) (by first | assumption | exact zm_o0 | exact zm_o _ _ _ rfl) (m_nodeOf l3 hm hx hy hv hs hr) ?_
          refine zw_iadd 72 rfl dX11_reads_71 ?_
          refine zw_lald 73 rfl dX11_reads_72 (by first | assumption | exact zm_o0 | exact zm_o _ _ _ rfl) (by omega) (by omega) ?_
          rw [hix, t1 _ _ (by omega)]
          refine zw_lmul 74 rfl dX11_reads_73 ?_
          refine zw_ladd 75 rfl dX11_reads_74 ?_
          refine zw_putl 78 rfl dX11_reads_75 fp_X11_256 (by first | assumption | exact zm_o0 | exact zm_o _ _ _ rfl) ?_
          refine zw_aload_n 79 rfl dX11_reads_78 rfl ?_
          refine zw_dup 80 rfl dX11_reads_79 rfl ?_
          refine zw_getl 83 rfl dX11_reads_80 fl_X11_260 (by first | assumption | exact zm_o0 | exact zm_o _ _ _ rfl) ?_
          rw [zu_k _ _ (by omega), t3]
          refine zw_aload_n 84 rfl dX11_reads_83 rfl ?_
          refine zw_iload_n 85 rfl dX11_reads_84 rfl ?_
          refine zw_iload 87 rfl dX11_reads_85 rfl ?_
          refine zw_cVi2 90 rfl dX11_reads_87 kX11_reads_237 (Nat.le_of_ble_eq_true rfl) (by first | assumption | exact zm_o0 | exact zm_o _ _ _ rfl) (m_partOf hsr3 l3 hm) ?_
          refine zw_aload_n 91 rfl dX11_reads_90 rfl ?_
          refine zw_getr 94 rfl dX11_reads_91 fl_X11_45 (by first | assumption | exact zm_o0 | exact zm_o _ _ _ rfl) (by first | assumption | exact zm_f _ _ rfl) ?_
          refine zw_sipush 97 rfl dX11_reads_94 rfl ?_
          refine zw_iload_n 98 rfl dX11_reads_97 rfl ?_
          refine zw_imul 99 rfl dX11_reads_98 ?_
          refine zw_aload_n 100 rfl dX11_reads_99 rfl ?_
          refine zw_iload 102 rfl dX11_reads_100 rfl ?_
          refine zw_cVi1 105 rfl dX11_reads_102 kX11_reads_234 (Nat.le_of_ble_eq_true rfl) (by first | assumption | exact zm_o0 | exact zm_o _ _ _ rfl) (m_nodeOf l3 hm hx hy hv hs hr) ?_
          refine zw_iadd 106 rfl dX11_reads_105 ?_
          refine zw_lald 107 rfl dX11_reads_106 (by first | assumption | exact zm_o0 | exact zm_o _ _ _ rfl) (by omega) (by omega) ?_
          rw [hix, zu_a _ _ (by omega), t1 _ _ (by omega)]
          refine zw_lmul 108 rfl dX11_reads_107 ?_
          refine zw_ladd 109 rfl dX11_reads_108 ?_
          refine zw_putl 112 rfl dX11_reads_109 fp_X11_260 (by first | assumption | exact zm_o0 | exact zm_o _ _ _ rfl) ?_
          refine zw_iinc 115 rfl dX11_reads_112 (Nat.le_of_ble_eq_true rfl) rfl rfl ?_
          refine zw_goto 22 dX11_reads_115 (by decide) ?_
          first
          | (have hz : mPt x y v s r m = 0 := by revert h_38; (repeat' split) <;> omega
             exact ih τ3 t1 (by rw [t2, hz, Int.zero_mul, Int.add_zero]) (by rw [t3, hz, Int.zero_mul, Int.add_zero]))
          | (exact ih _ (fun b j hb => by rw [zu_ne _ _ (by omega), zu_ne _ _ (by omega)]; exact t1 b j hb) (by rw [zu_k _ _ (by omega), zu_eq]) (by rw [zu_eq]))
        · refine zw_goto 112 dX11_reads_41 (by decide) ?_
          refine zw_iinc 115 rfl dX11_reads_112 (Nat.le_of_ble_eq_true rfl) rfl rfl ?_
          refine zw_goto 22 dX11_reads_115 (by decide) ?_
          first
          | (have hz : mPt x y v s r m = 0 := by revert h_38; (repeat' split) <;> omega
             exact ih τ3 t1 (by rw [t2, hz, Int.zero_mul, Int.add_zero]) (by rw [t3, hz, Int.zero_mul, Int.add_zero]))
          | (exact ih _ (fun b j hb => by rw [zu_ne _ _ (by omega), zu_ne _ _ (by omega)]; exact t1 b j hb) (by rw [zu_k _ _ (by omega), zu_eq]) (by rw [zu_eq]))
  refine zw_aload_n 1 rfl dX11_reads_0 rfl ?_
  refine zw_iload_n 2 rfl dX11_reads_1 rfl ?_
  refine zw_iload_n 3 rfl dX11_reads_2 rfl ?_
  refine zw_iload_n 4 rfl dX11_reads_3 rfl ?_
  refine zw_iload 6 rfl dX11_reads_4 rfl ?_
  refine zw_cVr4 9 rfl dX11_reads_6 kX11_reads_231 (Nat.le_of_ble_eq_true rfl) (by first | assumption | exact zm_o0 | exact zm_o _ _ _ rfl) (m_lies h hx hy hv) ?_
  rintro _ _ ⟨rfl, σ3, rfl, hf3, hl3⟩
  refine zw_aload_n 10 rfl dX11_reads_9 rfl ?_
  refine zw_lconst 11 rfl dX11_reads_10 ?_
  refine zw_putl 14 rfl dX11_reads_11 fp_X11_256 (by first | assumption | exact zm_o0 | exact zm_o _ _ _ rfl) ?_
  refine zw_aload_n 15 rfl dX11_reads_14 rfl ?_
  refine zw_lconst 16 rfl dX11_reads_15 ?_
  refine zw_putl 19 rfl dX11_reads_16 fp_X11_260 (by first | assumption | exact zm_o0 | exact zm_o _ _ _ rfl) ?_
  refine zw_iconst 20 rfl dX11_reads_19 ?_
  refine zw_istore 22 rfl dX11_reads_20 (Nat.le_of_ble_eq_true rfl) rfl ?_
  exact K σ3 hf3 hl3 _ (fun b j hb => by rw [zu_ne _ _ (by omega), zu_ne _ _ (by omega)]) (by rw [zu_k _ _ (by omega), zu_eq]; rfl) (by rw [zu_eq]; rfl)
/-! ===== how many nodes weigh ===== -/
theorem zS_rows (f : Nat → Int) (w h : Nat) : zS f (h * w) = zS (fun y => zS (fun x => f (y * w + x)) w) h := by
  unfold zS
  rw [zfold_rows]
  refine zfold_cong _ _ (fun y b hy => ?_)
  exact zS_sh (fun x => f (y * w + x)) w b
def mWn (A : zGr) (n : Nat) : Int := if 0 < zwt A (mnI n) (mnJ n) (mnK n) then 1 else 0
theorem mCount {A : zGr} (hk : zGok A) : zS (mWn A) 17043 = zDn (zDb A) := by
  have hk0 := hk
  obtain ⟨k1, k2, k3, k4, k5, k6, k7, k8, k9, k10⟩ := hk
  rw [show 17043 = 437 * 39 from rfl, zS_rows]
  have e1 : ∀ c : Nat, c < 437 → zS (fun x => mWn A (c * 39 + x)) 39 = zS (fun k => if 0 < zwt A (((c / 19 : Nat) : Int) - 3) (((c % 19 : Nat) : Int) - 3) ((k : Int) - 3) then (1 : Int) else 0) 40 := fun c hc => by
    show _ = zS (fun (k : Nat) => if 0 < zwt A (((c / 19 : Nat) : Int) - 3) (((c % 19 : Nat) : Int) - 3) ((k : Int) - 3) then (1 : Int) else 0) 39 + (if 0 < zwt A (((c / 19 : Nat) : Int) - 3) (((c % 19 : Nat) : Int) - 3) (((39 : Nat) : Int) - 3) then (1 : Int) else 0)
    rw [if_neg (show ¬ 0 < zwt A (((c / 19 : Nat) : Int) - 3) (((c % 19 : Nat) : Int) - 3) (((39 : Nat) : Int) - 3) by rw [(zwt_far hk0 (by omega)).1]; omega), Int.add_zero]
    refine zS_c _ (fun x hx => ?_)
    unfold mWn
    rw [show mnI (c * 39 + x) = ((c / 19 : Nat) : Int) - 3 by unfold mnI; omega, show mnJ (c * 39 + x) = ((c % 19 : Nat) : Int) - 3 by unfold mnJ; omega, show mnK (c * 39 + x) = (x : Int) - 3 by unfold mnK; omega]
  rw [zS_c _ e1]
  generalize hH : (fun (i j : Int) => zS (fun (k : Nat) => if 0 < zwt A i j ((k : Int) - 3) then (1 : Int) else 0) 40) = H
  have hH' : ∀ i j, zS (fun (k : Nat) => if 0 < zwt A i j ((k : Int) - 3) then (1 : Int) else 0) 40 = H i j := fun i j => by rw [← hH]
  have hz : ∀ i j, 15 + A.2.2.2.2.1 < i ∨ 11 + A.2.2.2.2.2.1 < j → H i j = 0 := fun i j q => by
    rw [← hH']
    exact zS_z _ (fun k _ => if_neg (by rw [(zwt_far hk0 (by omega)).1]; omega))
  have hD : zDn (zDb A) = zS (fun c => H (((c / 18 : Nat) : Int) - 3) (((c % 18 : Nat) : Int) - 3)) 396 := by
    unfold zDn
    refine zS_c _ (fun c hc => ?_)
    rw [← hH']
    unfold zDc zDb
    exact zS_c _ (fun k _ => by simp)
  rw [hD, zS_c (g := fun c => H (((c / 19 : Nat) : Int) - 3) (((c % 19 : Nat) : Int) - 3)) 437 (fun c hc => hH' _ _)]
  have s23 : ∀ f : Nat → Int, zS f 23 = zS f 22 + f 22 := fun f => rfl
  have s19 : ∀ f : Nat → Int, zS f 19 = zS f 18 + f 18 := fun f => rfl
  rw [show 437 = 23 * 19 from rfl, zS_rows, show 396 = 22 * 18 from rfl, zS_rows, s23]
  rw [zS_z (f := fun x => H ((((22 * 19 + x) / 19 : Nat) : Int) - 3) ((((22 * 19 + x) % 19 : Nat) : Int) - 3)) 19 (fun x hx => hz _ _ (by omega)), Int.add_zero]
  refine zS_c _ (fun i hi => ?_)
  rw [s19, hz _ _ (show 15 + A.2.2.2.2.1 < (((i * 19 + 18) / 19 : Nat) : Int) - 3 ∨ 11 + A.2.2.2.2.2.1 < (((i * 19 + 18) % 19 : Nat) : Int) - 3 by omega), Int.add_zero]
  refine zS_c _ (fun j hj => ?_)
  rw [show (i * 19 + j) / 19 = i by omega, show (i * 19 + j) % 19 = j by omega, show (i * 18 + j) / 18 = i by omega, show (i * 18 + j) % 18 = j by omega]
theorem m_weighed {G : zG} {C : Nat} {σ τ : zSt} {A : zGr} (hd : mGd C τ 0 A) (hk : zGok A) : zC G M_X11_weighed [.ref C] (zmS C, σ, τ) (zR (some (vi (zDn (zDb A)))) (zmS C, σ, τ)) := by
  refine zC_of 2 rfl (Nat.le_of_ble_eq_true rfl) ?_
  have hT := mCount hk
  generalize zDn (zDb A) = T at hT ⊢
  have key : zW G M_X11_weighed (zR (some (vi T)) (zmS C, σ, τ)) 4 [some (.ref C), some (vi (zS (mWn A) 0)), some (vi (0 : Nat))] [] (zmS C, σ, τ) := by
    refine zloop (n := 17043) (L := fun n => zW G M_X11_weighed (zR (some (vi T)) (zmS C, σ, τ)) 4 [some (.ref C), some (vi (zS (mWn A) n)), some (vi n)] [] (zmS C, σ, τ)) ?_ ?_
    · rw [hT]
      clear hT
      refine zw_iload_n 5 rfl dX11_weighed_4 rfl ?_
      refine zw_sipush 8 rfl dX11_weighed_5 rfl ?_
      refine zw_icmp_ge 36 11 rfl dX11_weighed_8 (by decide) (by omega) (by omega) (fun h_8 => ?_) (fun h_8 => ?_)
      · refine zw_iload_n 37 rfl dX11_weighed_36 rfl ?_
        exact zw_iretR dX11_weighed_37 rfl rfl rfl
      · exfalso; omega
    · intro n hn ih
      clear hT
      have h1 := (hd n hn).1
      rw [Nat.mul_zero, Nat.zero_add] at h1
      have h2 := zwt_nn hk (mnI n) (mnJ n) (mnK n)
      have h3 := zwt_top hk (mnI n) (mnJ n) (mnK n)
      have e : zS (mWn A) (n + 1) = zS (mWn A) n + mWn A n := rfl
      have ep : 0 < zwt A (mnI n) (mnJ n) (mnK n) → mWn A n = 1 := fun q => if_pos q
      have en : ¬ 0 < zwt A (mnI n) (mnJ n) (mnK n) → mWn A n = 0 := fun q => if_neg q
      rw [e] at ih
      generalize zwt A (mnI n) (mnJ n) (mnK n) = W at *
      refine zw_iload_n 5 rfl dX11_weighed_4 rfl ?_
      refine zw_sipush 8 rfl dX11_weighed_5 rfl ?_
      refine zw_icmp_ge 36 11 rfl dX11_weighed_8 (by decide) (by omega) (by omega) (fun h_8 => ?_) (fun h_8 => ?_)
      · exfalso; omega
      · refine zw_iload_n 12 rfl dX11_weighed_11 rfl ?_
        refine zw_aload_n 13 rfl dX11_weighed_12 rfl ?_
        refine zw_getr 16 rfl dX11_weighed_13 fl_X11_45 (by first | assumption | exact zm_o0 | exact zm_o _ _ _ rfl) (by first | assumption | exact zm_f _ _ rfl) ?_
        refine zw_iload_n 17 rfl dX11_weighed_16 rfl ?_
        refine zw_lald 18 rfl dX11_weighed_17 (by first | assumption | exact zm_o0 | exact zm_o _ _ _ rfl) (by omega) (by omega) ?_
        rw [Int.toNat_natCast, h1]
        refine zw_lconst 19 rfl dX11_weighed_18 ?_
        refine zw_lcmp 20 rfl dX11_weighed_19 (by omega) (by omega) ?_
        refine zw_if_le 27 23 rfl dX11_weighed_20 (by decide) (by (repeat' split) <;> omega) (fun h_20 => ?_) (fun h_20 => ?_)
        · refine zw_iconst 28 rfl dX11_weighed_27 ?_
          refine zw_iadd 29 rfl dX11_weighed_28 ?_
          refine zw_istore_n 30 rfl dX11_weighed_29 (Nat.le_of_ble_eq_true rfl) rfl ?_
          refine zw_iinc 33 rfl dX11_weighed_30 (Nat.le_of_ble_eq_true rfl) rfl rfl ?_
          refine zw_goto 4 dX11_weighed_33 (by decide) ?_
          first
          | (have q : ¬ 0 < W := by intro q; rw [if_neg (show ¬ W < _ from by show ¬ W < 0; omega), if_neg (show ¬ W = _ from by show ¬ W = 0; omega)] at h_20; omega
             rw [en q] at ih; exact ih)
          | (have q : 0 < W := by
               apply Decidable.byContradiction; intro q; rw [if_neg (show ¬ W < _ from by show ¬ W < 0; omega), if_pos (show W = _ from by show W = 0; omega)] at h_20; omega
             rw [ep q] at ih; exact ih)
        · refine zw_iconst 24 rfl dX11_weighed_23 ?_
          refine zw_goto 28 dX11_weighed_24 (by decide) ?_
          refine zw_iadd 29 rfl dX11_weighed_28 ?_
          refine zw_istore_n 30 rfl dX11_weighed_29 (Nat.le_of_ble_eq_true rfl) rfl ?_
          refine zw_iinc 33 rfl dX11_weighed_30 (Nat.le_of_ble_eq_true rfl) rfl rfl ?_
          refine zw_goto 4 dX11_weighed_33 (by decide) ?_
          first
          | (have q : ¬ 0 < W := by intro q; rw [if_neg (show ¬ W < _ from by show ¬ W < 0; omega), if_neg (show ¬ W = _ from by show ¬ W = 0; omega)] at h_20; omega
             rw [en q] at ih; exact ih)
          | (have q : 0 < W := by
               apply Decidable.byContradiction; intro q; rw [if_neg (show ¬ W < _ from by show ¬ W < 0; omega), if_pos (show W = _ from by show W = 0; omega)] at h_20; omega
             rw [ep q] at ih; exact ih)
  refine zw_iconst 1 rfl dX11_weighed_0 ?_
  refine zw_istore_n 2 rfl dX11_weighed_1 (Nat.le_of_ble_eq_true rfl) rfl ?_
  refine zw_iconst 3 rfl dX11_weighed_2 ?_
  refine zw_istore_n 4 rfl dX11_weighed_3 (Nat.le_of_ble_eq_true rfl) rfl ?_
  exact key
