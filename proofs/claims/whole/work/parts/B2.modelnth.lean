/-! ===== nth ===== -/
def mNt (D : Nat → Bool) (what : Int) : Nat → Nat → Int → Int
  | 0, _, _ => -1000
  | f + 1, k, l => if D k then (if l = 0 then (mpl k what : Int) - 3 else mNt D what f (k + 1) (l - 1)) else mNt D what f (k + 1) l
def mCn (E : Nat → Bool) (x r : Nat) : Int := zS (fun i => if E (x + i) then 1 else 0) r
theorem mCn_s (E : Nat → Bool) (x r : Nat) : mCn E x (r + 1) = (if E x then 1 else 0) + mCn E (x + 1) r := by
  unfold mCn
  have := zS_split (fun i => if E (x + i) then (1 : Int) else 0) 1 r
  rw [Nat.add_comm 1 r] at this
  rw [this]
  have e1 : zS (fun i => if E (x + i) then (1 : Int) else 0) 1 = if E x then 1 else 0 := by rw [show (1 : Nat) = 0 + 1 from rfl, zS_s, zS_0, Nat.add_zero, Int.zero_add]
  rw [e1]
  congr 1
  exact zS_c _ (fun i _ => by rw [show x + (1 + i) = x + 1 + i by omega])
theorem mCn_n (E : Nat → Bool) (x r : Nat) : 0 ≤ mCn E x r := by
  unfold mCn
  have := zS_le (f := fun _ => 0) (g := fun i => if E (x + i) then (1 : Int) else 0) r (fun i _ => by split <;> omega)
  rw [zS_k] at this
  simpa using this
/-- a column's nodes, one by one -/
theorem mNt_col (D : Nat → Bool) (what : Int) (k0 f : Nat) : ∀ (r x : Nat) (l : Int), x + r = 39 → 0 ≤ l → mNt D what (r + f) (k0 + x) l = if l < mCn (fun i => D (k0 + i)) x r then (mpl (k0 + (zDr (fun _ i => D (k0 + i)) 0 r x l).toNat) what : Int) - 3 else mNt D what f (k0 + 39) (l - mCn (fun i => D (k0 + i)) x r)
  | 0, x, l, hx, hl => by
    have e : mCn (fun i => D (k0 + i)) x 0 = 0 := rfl
    rw [e, if_neg (by omega), Nat.zero_add, show x = 39 by omega, Int.sub_zero]
  | r + 1, x, l, hx, hl => by
    rw [show r + 1 + f = (r + f) + 1 by omega, mCn_s]
    have hn := mCn_n (fun i => D (k0 + i)) (x + 1) r
    simp only [mNt, zDr]
    by_cases hd : D (k0 + x) = true
    · rw [if_pos hd, if_pos hd, if_pos hd]
      by_cases h0 : l = 0
      · rw [if_pos h0, if_pos h0, if_pos (by omega), Int.toNat_natCast]
      · rw [if_neg h0, if_neg h0, show k0 + x + 1 = k0 + (x + 1) by omega, mNt_col D what k0 f r (x + 1) (l - 1) (by omega) (by omega)]
        by_cases q : l - 1 < mCn (fun i => D (k0 + i)) (x + 1) r
        · rw [if_pos q, if_pos (by omega)]
        · rw [if_neg q, if_neg (by omega)]; congr 1; omega
    · rw [if_neg hd, if_neg hd, if_neg hd, show k0 + x + 1 = k0 + (x + 1) by omega, mNt_col D what k0 f r (x + 1) l (by omega) hl, Int.zero_add]
theorem zDr_r (E : Nat → Nat → Bool) (c : Nat) : ∀ (n k : Nat) (l : Int), 0 ≤ l → l < mCn (E c) k n → (k : Int) ≤ zDr E c n k l ∧ zDr E c n k l < k + n
  | 0, k, l, h0, h => by unfold mCn at h; rw [zS_0] at h; omega
  | n + 1, k, l, h0, h => by
    rw [mCn_s] at h
    simp only [zDr]
    by_cases hd : E c k = true
    · rw [if_pos hd] at h ⊢
      by_cases q : l = 0
      · rw [if_pos q]; omega
      · rw [if_neg q]; have := zDr_r E c n (k + 1) (l - 1) (by omega) (by omega); omega
    · rw [if_neg hd] at h ⊢; have := zDr_r E c n (k + 1) l h0 (by omega); omega
theorem zDr_c (E E' : Nat → Nat → Bool) (c c' : Nat) : ∀ (n k : Nat) (l : Int), (∀ i, k ≤ i → i < k + n → E c i = E' c' i) → zDr E c n k l = zDr E' c' n k l
  | 0, _, _, _ => rfl
  | n + 1, k, l, h => by
    simp only [zDr]
    rw [h k (Nat.le_refl _) (by omega), zDr_c E E' c c' n (k + 1) _ (fun i h1 h2 => h i (by omega) (by omega)), zDr_c E E' c c' n (k + 1) _ (fun i h1 h2 => h i (by omega) (by omega))]
def mDb (g : zGr) (n : Nat) : Bool := decide (0 < zwt g (mnI n) (mnJ n) (mnK n))
/-- the count of a column of the model -/
theorem mCol {g : zGr} (hk : zGok g) {i j : Nat} (hi : i < 22) (hj : j < 18) : mCn (fun x => mDb g (39 * (19 * i + j) + x)) 0 39 = zDc (zDb g) (18 * i + j) ∧ ∀ x, x < 39 → mDb g (39 * (19 * i + j) + x) = zDb g (18 * i + j) x := by
  have e : ∀ x, x < 39 → mDb g (39 * (19 * i + j) + x) = zDb g (18 * i + j) x := fun x hx => by
    unfold mDb zDb
    rw [show mnI (39 * (19 * i + j) + x) = (((18 * i + j) / 18 : Nat) : Int) - 3 by unfold mnI; omega, show mnJ (39 * (19 * i + j) + x) = (((18 * i + j) % 18 : Nat) : Int) - 3 by unfold mnJ; omega, show mnK (39 * (19 * i + j) + x) = (x : Int) - 3 by unfold mnK; omega]
  refine ⟨?_, e⟩
  have k9 := hk.2.2.2.2.2.2.2.2.1
  unfold zDc mCn
  show _ = zS (fun k => if zDb g (18 * i + j) k then (1 : Int) else 0) 39 + (if zDb g (18 * i + j) 39 then (1 : Int) else 0)
  have z : zDb g (18 * i + j) 39 = false := by
    unfold zDb
    rw [(zwt_far hk (by omega)).1]; rfl
  rw [z]
  show _ = _ + (0 : Int)
  rw [Int.add_zero]
  exact zS_c _ (fun x hx => by rw [Nat.zero_add]; show (if mDb g (39 * (19 * i + j) + x) = true then (1 : Int) else 0) = _; rw [e x hx])
theorem mCol_0 {g : zGr} (hk : zGok g) {c : Nat} (hc : c < 437) (h : 22 ≤ c / 19 ∨ 18 ≤ c % 19) : mCn (fun x => mDb g (39 * c + x)) 0 39 = 0 := by
  obtain ⟨k1, k2, k3, k4, k5, k6, k7, k8, k9, k10⟩ := id hk
  unfold mCn
  refine zS_z _ (fun x hx => ?_)
  have z : mDb g (39 * c + (0 + x)) = false := by
    unfold mDb
    rw [(zwt_far hk (by unfold mnI mnJ; omega)).1]; rfl
  show (if mDb g (39 * c + (0 + x)) = true then (1 : Int) else 0) = 0
  rw [z]; rfl
theorem mNt_e {g : zGr} {what : Int} (hk : zGok g) (hw : 0 ≤ what ∧ what ≤ 2) (m : Int) (hm : 0 ≤ m) : mNt (mDb g) what 17043 0 m = zDm (zDb g) what 396 0 m := by
  -- row by row, from the last
  have rows : ∀ (d i : Nat), d + i = 22 → ∀ l : Int, 0 ≤ l → mNt (mDb g) what (39 * (19 * (d + 1))) (39 * (19 * i)) l = zDm (zDb g) what (18 * d) (18 * i) l := by
    intro d
    induction d with
    | zero =>
      intro i hi l hl
      have skip : ∀ n c : Nat, n + c = 437 → 418 ≤ c → mNt (mDb g) what (39 * n) (39 * c) l = -1000 := by
        intro n
        induction n with
        | zero => intro c _ _; rfl
        | succ n ih =>
          intro c h1 h2
          have := mNt_col (mDb g) what (39 * c) (39 * n) 39 0 l rfl hl
          rw [Nat.add_zero] at this
          rw [show 39 * (n + 1) = 39 + 39 * n by omega, this, mCol_0 hk (by omega) (by omega), if_neg (by omega), Int.sub_zero, show 39 * c + 39 = 39 * (c + 1) by omega]
          exact ih (c + 1) (by omega) (by omega)
      rw [show i = 22 by omega]
      exact skip 19 418 rfl (by omega)
    | succ d ihd =>
      intro i hi
      have cols : ∀ (r j : Nat), r + j = 18 → ∀ l : Int, 0 ≤ l → mNt (mDb g) what (39 * (19 * (d + 1) + (r + 1))) (39 * (19 * i + j)) l = zDm (zDb g) what (18 * d + r) (18 * i + j) l := by
        intro r
        induction r with
        | zero =>
          intro j hj l hl
          have := mNt_col (mDb g) what (39 * (19 * i + j)) (39 * (19 * (d + 1))) 39 0 l rfl hl
          rw [Nat.add_zero (39 * (19 * i + j))] at this
          rw [show 39 * (19 * (d + 1) + (0 + 1)) = 39 + 39 * (19 * (d + 1)) by omega, this, mCol_0 hk (by omega) (by omega), if_neg (by omega), Int.sub_zero, show 39 * (19 * i + j) + 39 = 39 * (19 * (i + 1)) by omega, ihd (i + 1) (by omega) l hl, show 18 * (i + 1) = 18 * i + j by omega]
          rfl
        | succ r ihr =>
          intro j hj l hl
          obtain ⟨c1, c2⟩ := mCol hk (i := i) (j := j) (by omega) (by omega)
          have := mNt_col (mDb g) what (39 * (19 * i + j)) (39 * (19 * (d + 1) + (r + 1))) 39 0 l rfl hl
          rw [Nat.add_zero (39 * (19 * i + j))] at this
          rw [show 39 * (19 * (d + 1) + (r + 1 + 1)) = 39 + 39 * (19 * (d + 1) + (r + 1)) by omega, this, c1, show 18 * d + (r + 1) = (18 * d + r) + 1 by omega]
          simp only [zDm]
          by_cases q : l < zDc (zDb g) (18 * i + j)
          · rw [if_pos q, if_pos q]
            have hr := zDr_r (fun _ x => mDb g (39 * (19 * i + j) + x)) 0 39 0 l hl (by rw [c1]; exact q)
            have he : zDr (fun _ x => mDb g (39 * (19 * i + j) + x)) 0 39 0 l = zDr (zDb g) (18 * i + j) 39 0 l := zDr_c _ _ _ _ 39 0 l (fun x _ hx => c2 x (by omega))
            rw [he] at hr ⊢
            generalize zDr (zDb g) (18 * i + j) 39 0 l = X at *
            unfold mpl
            rcases (show what = 0 ∨ what = 1 ∨ what = 2 by omega) with rfl | rfl | rfl
            · rw [if_pos rfl, if_pos rfl]; omega
            · rw [if_neg (by omega), if_pos rfl, if_neg (by omega), if_pos rfl]; omega
            · rw [if_neg (by omega), if_neg (by omega), if_neg (by omega), if_neg (by omega)]; omega
          · rw [if_neg q, if_neg q, show 39 * (19 * i + j) + 39 = 39 * (19 * i + (j + 1)) by omega, ihr (j + 1) (by omega) _ (by omega), show 18 * i + (j + 1) = 18 * i + j + 1 by omega]
      intro l hl
      have := cols 18 0 rfl l hl
      rw [Nat.add_zero (19 * i), Nat.add_zero (18 * i)] at this
      rw [show 39 * (19 * (d + 1 + 1)) = 39 * (19 * (d + 1) + (18 + 1)) by omega, show 18 * (d + 1) = 18 * d + 18 by omega]
      exact this
  exact rows 22 0 rfl m hm
theorem Y_nth {G : zG} {C : Nat} {σ τ : zSt} {A : zA} {m what : Int} (h : zmR C σ τ A) (hm : -2147483648 ≤ m ∧ m ≤ 2147483647) (hwhat : -2147483648 ≤ what ∧ what ≤ 2147483647) : zC G M_X11_nth [.ref C, vi m, vi what] (zmS C, σ, τ) (mQ C (sp_nth A m what)) := by
  refine zC_of 2 rfl (Nat.le_of_ble_eq_true rfl) ?_
  have key : aMade A → (0 ≤ what ∧ what ≤ 2) → 0 ≤ m → zW G M_X11_nth (mQ C (sp_nth A m what)) 36 [some (.ref C), some (vi m), some (vi what), some (vi m), some (vi (0 : Nat))] [] (zmS C, zu σ C 0 0, τ) := by
    intro hm hw h0
    have hl := (h.made hm).1
    have hgd := hl.gd
    have hE := mNt_e hl.1 hw m h0
    have fin : ∀ v : Int, v = mNt (mDb (aGG A)) what 17043 0 m → mQ C (sp_nth A m what) (some (vi v)) (zmS C, zu (zu (zu σ C 0 0) C 1 0) C 2 (-1), τ) := fun v hv => mRead h mThrown mScT.rf (by rw [if_pos hm, if_pos hw, if_pos h0]) (by rw [hv, hE]) rfl
    clear hE
    obtain ⟨T, hTe⟩ : ∃ T, mNt (mDb (aGG A)) what 17043 0 m = T := ⟨_, rfl⟩
    rw [hTe] at fin
    have hT : ∀ v, v = T → mQ C (sp_nth A m what) (some (vi v)) (zmS C, zu (zu (zu σ C 0 0) C 1 0) C 2 (-1), τ) := fin
    have loop : ∀ (f k : Nat) (l : Int), f + k = 17043 → (0 ≤ l ∧ l ≤ 2147483647) → mNt (mDb (aGG A)) what f k l = T → zW G M_X11_nth (mQ C (sp_nth A m what)) 36 [some (.ref C), some (vi m), some (vi what), some (vi l), some (vi k)] [] (zmS C, zu σ C 0 0, τ) := by
      clear hTe
      intro f
      induction f with
      | zero =>
        intro k l hk hl hq
        have hq : (-1000 : Int) = T := hq
        refine zw_iload 38 rfl dX11_nth_36 rfl ?_
        refine zw_sipush 41 rfl dX11_nth_38 rfl ?_
        refine zw_icmp_ge 85 44 rfl dX11_nth_41 (by decide) (by omega) (by omega) (fun h_41 => ?_) (fun h_41 => ?_)
        · refine zw_aload_n 86 rfl dX11_nth_85 rfl ?_
          refine zw_sipush 89 rfl dX11_nth_86 rfl ?_
          refine zw_cVi1 92 rfl dX11_nth_89 kX11_nth_157 (Nat.le_of_ble_eq_true rfl) (by first | assumption | exact zm_o0 | exact zm_o _ _ _ rfl) m_good ?_
          exact zw_iret (st := []) dX11_nth_92 rfl (hT _ hq)
        · exfalso; omega
      | succ f ih =>
        intro k l hk hll hq
        have h1 := (hgd k (by omega)).1
        rw [Nat.mul_zero, Nat.zero_add] at h1
        have h2 := zwt_nn hl.1 (mnI k) (mnJ k) (mnK k)
        have h3 := zwt_top hl.1 (mnI k) (mnJ k) (mnK k)
        have eD : mDb (aGG A) k = decide (0 < zwt (aGG A) (mnI k) (mnJ k) (mnK k)) := rfl
        simp only [mNt] at hq
        generalize zwt (aGG A) (mnI k) (mnJ k) (mnK k) = W at *
        by_cases hW : 0 < W
        · rw [if_pos (by rw [eD]; simpa using hW)] at hq
          refine zw_iload 38 rfl dX11_nth_36 rfl ?_
          refine zw_sipush 41 rfl dX11_nth_38 rfl ?_
          refine zw_icmp_ge 85 44 rfl dX11_nth_41 (by decide) (by omega) (by omega) (fun h_41 => ?_) (fun h_41 => ?_)
          · exfalso; omega
          · refine zw_aload_n 45 rfl dX11_nth_44 rfl ?_
            refine zw_getr 48 rfl dX11_nth_45 fl_X11_45 (by first | assumption | exact zm_o0 | exact zm_o _ _ _ rfl) (by first | assumption | exact zm_f _ _ rfl) ?_
            refine zw_iload 50 rfl dX11_nth_48 rfl ?_
            refine zw_lald 51 rfl dX11_nth_50 (by first | assumption | exact zm_o0 | exact zm_o _ _ _ rfl) (by omega) (by omega) ?_
            rw [Int.toNat_natCast, h1]
            refine zw_lconst 52 rfl dX11_nth_51 ?_
            refine zw_lcmp 53 rfl dX11_nth_52 (by omega) (by omega) ?_
            refine zw_if_ne 59 56 rfl dX11_nth_53 (by decide) (by (repeat' split) <;> omega) (fun h_53 => ?_) (fun h_53 => ?_)
            · refine zw_iload_n 60 rfl dX11_nth_59 rfl ?_
              refine zw_if_ne 76 63 rfl dX11_nth_60 (by decide) (by omega) (fun h_60 => ?_) (fun h_60 => ?_)
              · refine zw_iinc 79 rfl dX11_nth_76 (Nat.le_of_ble_eq_true rfl) rfl rfl ?_
                refine zw_iinc 82 rfl dX11_nth_79 (Nat.le_of_ble_eq_true rfl) rfl rfl ?_
                refine zw_goto 36 dX11_nth_82 (by decide) ?_
                rw [if_neg h_60] at hq
                exact ih (k + 1) (l - 1) (by omega) (by omega) hq
              · refine zw_aload_n 64 rfl dX11_nth_63 rfl ?_
                refine zw_iload 66 rfl dX11_nth_64 rfl ?_
                refine zw_iload_n 67 rfl dX11_nth_66 rfl ?_
                refine zw_cSi2 70 rfl dX11_nth_67 kX11_nth_244 (Nat.le_of_ble_eq_true rfl) (m_placeIn (by omega) hw) ?_
                refine zw_iconst 71 rfl dX11_nth_70 ?_
                refine zw_isub 72 rfl dX11_nth_71 ?_
                refine zw_cVi1 75 rfl dX11_nth_72 kX11_nth_157 (Nat.le_of_ble_eq_true rfl) (by first | assumption | exact zm_o0 | exact zm_o _ _ _ rfl) m_good ?_
                rw [if_pos h_60] at hq
                exact zw_iret (st := []) dX11_nth_75 rfl (hT _ hq)
            · exfalso; revert h_53; show ¬ ((if W < 0 then (-1 : Int) else if W = 0 then 0 else 1) = 0); rw [if_neg (by omega), if_neg (by omega)]; omega
        · rw [if_neg (by rw [eD]; simpa using hW)] at hq
          refine zw_iload 38 rfl dX11_nth_36 rfl ?_
          refine zw_sipush 41 rfl dX11_nth_38 rfl ?_
          refine zw_icmp_ge 85 44 rfl dX11_nth_41 (by decide) (by omega) (by omega) (fun h_41 => ?_) (fun h_41 => ?_)
          · exfalso; omega
          · refine zw_aload_n 45 rfl dX11_nth_44 rfl ?_
            refine zw_getr 48 rfl dX11_nth_45 fl_X11_45 (by first | assumption | exact zm_o0 | exact zm_o _ _ _ rfl) (by first | assumption | exact zm_f _ _ rfl) ?_
            refine zw_iload 50 rfl dX11_nth_48 rfl ?_
            refine zw_lald 51 rfl dX11_nth_50 (by first | assumption | exact zm_o0 | exact zm_o _ _ _ rfl) (by omega) (by omega) ?_
            rw [Int.toNat_natCast, h1]
            refine zw_lconst 52 rfl dX11_nth_51 ?_
            refine zw_lcmp 53 rfl dX11_nth_52 (by omega) (by omega) ?_
            refine zw_if_ne 59 56 rfl dX11_nth_53 (by decide) (by (repeat' split) <;> omega) (fun h_53 => ?_) (fun h_53 => ?_)
            · exfalso; exact h_53 (by show (if W < 0 then (-1 : Int) else if W = 0 then 0 else 1) = 0; rw [if_neg (by omega), if_pos (by omega)])
            · refine zw_goto 79 dX11_nth_56 (by decide) ?_
              refine zw_iinc 82 rfl dX11_nth_79 (Nat.le_of_ble_eq_true rfl) rfl rfl ?_
              refine zw_goto 36 dX11_nth_82 (by decide) ?_
              exact ih (k + 1) l (by omega) hll hq
    exact loop 17043 0 m rfl (by omega) hTe
  refine zw_aload_n 1 rfl dX11_nth_0 rfl ?_
  refine zw_iconst 2 rfl dX11_nth_1 ?_
  refine zw_puti 5 rfl dX11_nth_2 fp_X11_85 (by first | assumption | exact zm_o0 | exact zm_o _ _ _ rfl) ?_
  refine zw_aload_n 6 rfl dX11_nth_5 rfl ?_
  refine zw_getz 9 rfl dX11_nth_6 fl_X11_166 (by first | assumption | exact zm_o0 | exact zm_o _ _ _ rfl) ?_
  rw [zu_k _ _ (by omega), h.has]
  refine zw_if_eqB 25 12 rfl dX11_nth_9 (by decide) (fun h_9 => ?_) (fun h_9 => ?_)
  · refine zw_aload_n 26 rfl dX11_nth_25 rfl ?_
    refine zw_iconst 27 rfl dX11_nth_26 ?_
    refine zw_cVi1 30 rfl dX11_nth_27 kX11_nth_147 (Nat.le_of_ble_eq_true rfl) (by first | assumption | exact zm_o0 | exact zm_o _ _ _ rfl) m_refused ?_
    exact zw_iret (st := []) dX11_nth_30 rfl (mRef h mThrown mScT.rf (by simp only [if_neg h_9, if_true, if_false]) (by omega))
  · refine zw_iload_n 13 rfl dX11_nth_12 rfl ?_
    refine zw_iconst 14 rfl dX11_nth_13 ?_
    refine zw_iconst 15 rfl dX11_nth_14 ?_
    refine zw_cSi3 18 rfl dX11_nth_15 kX11_nth_106 (Nat.le_of_ble_eq_true rfl) (m_in hwhat (by omega) (by omega)) ?_
    refine zw_if_eqB 25 21 rfl dX11_nth_18 (by decide) (fun h_18 => ?_) (fun h_18 => ?_)
    · refine zw_aload_n 26 rfl dX11_nth_25 rfl ?_
      refine zw_iconst 27 rfl dX11_nth_26 ?_
      refine zw_cVi1 30 rfl dX11_nth_27 kX11_nth_147 (Nat.le_of_ble_eq_true rfl) (by first | assumption | exact zm_o0 | exact zm_o _ _ _ rfl) m_refused ?_
      exact zw_iret (st := []) dX11_nth_30 rfl (mRef h mThrown mScT.rf (by simp only [if_pos h_9, if_neg h_18, if_true, if_false]) (by omega))
    · refine zw_iload_n 22 rfl dX11_nth_21 rfl ?_
      refine zw_if_ge 31 25 rfl dX11_nth_22 (by decide) (by omega) (fun h_22 => ?_) (fun h_22 => ?_)
      · refine zw_iload_n 32 rfl dX11_nth_31 rfl ?_
        refine zw_istore_n 33 rfl dX11_nth_32 (Nat.le_of_ble_eq_true rfl) rfl ?_
        refine zw_iconst 34 rfl dX11_nth_33 ?_
        refine zw_istore 36 rfl dX11_nth_34 (Nat.le_of_ble_eq_true rfl) rfl ?_
        exact key h_9 h_18 h_22
      · refine zw_aload_n 26 rfl dX11_nth_25 rfl ?_
        refine zw_iconst 27 rfl dX11_nth_26 ?_
        refine zw_cVi1 30 rfl dX11_nth_27 kX11_nth_147 (Nat.le_of_ble_eq_true rfl) (by first | assumption | exact zm_o0 | exact zm_o _ _ _ rfl) m_refused ?_
        exact zw_iret (st := []) dX11_nth_30 rfl (mRef h mThrown mScT.rf (by simp only [if_pos h_9, if_pos h_18, if_neg h_22, if_true, if_false]) (by omega))
