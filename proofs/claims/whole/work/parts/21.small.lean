/-! ===== least, greatest, all together ===== -/
theorem c_least {G : zG} {S : zSh} {σ τ : zSt} {a sa : Nat} (hp : zPic S a sa) (hw : zPW σ a) (hd : zSd σ sa (σ a 1 * σ a 2)) : zC G M_X5_least [.ref a] (S, σ, τ) (zR (some (vi (zfold (fun d m => if σ sa d < m then σ sa d else m) (σ a 1 * σ a 2).toNat 255))) (S, σ, τ)) := by
  have hp0 := hp
  have hw0 := hw
  obtain ⟨ha, hs, hsa, hne⟩ := hp
  obtain ⟨⟨w0, w1⟩, w2, w3⟩ := hw
  refine zC_of 2 rfl (Nat.le_of_ble_eq_true rfl) ?_
  generalize hF : (fun (d : Nat) (m : Int) => if σ sa d < m then σ sa d else m) = F
  have rng : ∀ i : Nat, (i : Int) ≤ σ a 1 * σ a 2 → 0 ≤ zfold F i 255 ∧ zfold F i 255 ≤ 255 := by
    intro i
    induction i with
    | zero => intro _; simp [zfold]
    | succ i ih => intro h; have h1 := ih (by omega); have h2 := hd i (by omega); subst hF; simp only [zfold]; split <;> omega
  have hcn := zz_wh ⟨w0, w1⟩ ⟨w2, w3⟩
  have loop : ∀ (n i : Nat), (i : Int) ≤ σ a 1 * σ a 2 → σ a 1 * σ a 2 - i < n → zW G M_X5_least (zR (some (vi (zfold F (σ a 1 * σ a 2).toNat 255))) (S, σ, τ)) 6 [some (.ref a), some (vi (zfold F i 255)), some (vi i)] [] (S, σ, τ) := by
    intro n
    induction n with
    | zero => intro i h1 h2; omega
    | succ n ih =>
      intro i h1 h2
      have hr := rng i h1
      refine zw_iload_n 7 rfl dX5_least_6 rfl ?_
      refine zw_aload_n 8 rfl dX5_least_7 rfl ?_
      refine zw_cVi0 11 rfl dX5_least_8 kX5_least_48 (Nat.le_of_ble_eq_true rfl) (by first | assumption | exact zx_o0 | exact zx_o _ _ _ rfl) (c_count hp0) ?_
      refine zw_icmp_ge 31 14 rfl dX5_least_11 (by decide) (by omega) (by omega) (fun h_11 => ?_) (fun h_11 => ?_)
      · refine zw_iload_n 32 rfl dX5_least_31 rfl ?_
        exact zw_iretR dX5_least_32 rfl (by rw [show i = (σ a 1 * σ a 2).toNat by omega]) rfl
      · have hs1 := hd i (by omega)
        refine zw_iload_n 15 rfl dX5_least_14 rfl ?_
        refine zw_aload_n 16 rfl dX5_least_15 rfl ?_
        refine zw_getr 19 rfl dX5_least_16 fl_X5_9 (by first | assumption | exact zx_o0 | exact zx_o _ _ _ rfl) (by first | assumption | exact zx_f0 _ _ rfl | exact zx_f _ _ _ rfl) ?_
        refine zw_iload_n 20 rfl dX5_least_19 rfl ?_
        refine zw_iald 21 rfl dX5_least_20 (by first | assumption | exact zx_o0 | exact zx_o _ _ _ rfl) (by omega) (by omega) ?_
        refine zw_mmin 24 rfl dX5_least_21 kmX5_22 ⟨Nat.le_of_ble_eq_true rfl, Nat.le_of_ble_eq_true rfl⟩ (by omega) (by have := hd i (by omega); simp only [Int.toNat_natCast]; omega) ?_
        refine zw_istore_n 25 rfl dX5_least_24 (Nat.le_of_ble_eq_true rfl) rfl ?_
        refine zw_iinc 28 rfl dX5_least_25 (Nat.le_of_ble_eq_true rfl) rfl rfl ?_
        refine zw_goto 6 dX5_least_28 (by decide) ?_
        subst hF
        exact ih (i + 1) (by omega) (by omega)
  refine zw_sipush 3 rfl dX5_least_0 rfl ?_
  refine zw_istore_n 4 rfl dX5_least_3 (Nat.le_of_ble_eq_true rfl) rfl ?_
  refine zw_iconst 5 rfl dX5_least_4 ?_
  refine zw_istore_n 6 rfl dX5_least_5 (Nat.le_of_ble_eq_true rfl) rfl ?_
  exact loop ((σ a 1 * σ a 2).toNat + 1) 0 (by omega) (by omega)
theorem c_greatest {G : zG} {S : zSh} {σ τ : zSt} {a sa : Nat} (hp : zPic S a sa) (hw : zPW σ a) (hd : zSd σ sa (σ a 1 * σ a 2)) : zC G M_X5_greatest [.ref a] (S, σ, τ) (zR (some (vi (zfold (fun d m => if m < σ sa d then σ sa d else m) (σ a 1 * σ a 2).toNat 0))) (S, σ, τ)) := by
  have hp0 := hp
  have hw0 := hw
  obtain ⟨ha, hs, hsa, hne⟩ := hp
  obtain ⟨⟨w0, w1⟩, w2, w3⟩ := hw
  refine zC_of 2 rfl (Nat.le_of_ble_eq_true rfl) ?_
  generalize hF : (fun (d : Nat) (m : Int) => if m < σ sa d then σ sa d else m) = F
  have rng : ∀ i : Nat, (i : Int) ≤ σ a 1 * σ a 2 → 0 ≤ zfold F i 0 ∧ zfold F i 0 ≤ 255 := by
    intro i
    induction i with
    | zero => intro _; simp [zfold]
    | succ i ih => intro h; have h1 := ih (by omega); have h2 := hd i (by omega); subst hF; simp only [zfold]; split <;> omega
  have hcn := zz_wh ⟨w0, w1⟩ ⟨w2, w3⟩
  have loop : ∀ (n i : Nat), (i : Int) ≤ σ a 1 * σ a 2 → σ a 1 * σ a 2 - i < n → zW G M_X5_greatest (zR (some (vi (zfold F (σ a 1 * σ a 2).toNat 0))) (S, σ, τ)) 4 [some (.ref a), some (vi (zfold F i 0)), some (vi i)] [] (S, σ, τ) := by
    intro n
    induction n with
    | zero => intro i h1 h2; omega
    | succ n ih =>
      intro i h1 h2
      have hr := rng i h1
      refine zw_iload_n 5 rfl dX5_greatest_4 rfl ?_
      refine zw_aload_n 6 rfl dX5_greatest_5 rfl ?_
      refine zw_cVi0 9 rfl dX5_greatest_6 kX5_greatest_48 (Nat.le_of_ble_eq_true rfl) (by first | assumption | exact zx_o0 | exact zx_o _ _ _ rfl) (c_count hp0) ?_
      refine zw_icmp_ge 29 12 rfl dX5_greatest_9 (by decide) (by omega) (by omega) (fun h_9 => ?_) (fun h_9 => ?_)
      · refine zw_iload_n 30 rfl dX5_greatest_29 rfl ?_
        exact zw_iretR dX5_greatest_30 rfl (by rw [show i = (σ a 1 * σ a 2).toNat by omega]) rfl
      · refine zw_iload_n 13 rfl dX5_greatest_12 rfl ?_
        refine zw_aload_n 14 rfl dX5_greatest_13 rfl ?_
        refine zw_getr 17 rfl dX5_greatest_14 fl_X5_9 (by first | assumption | exact zx_o0 | exact zx_o _ _ _ rfl) (by first | assumption | exact zx_f0 _ _ rfl | exact zx_f _ _ _ rfl) ?_
        refine zw_iload_n 18 rfl dX5_greatest_17 rfl ?_
        refine zw_iald 19 rfl dX5_greatest_18 (by first | assumption | exact zx_o0 | exact zx_o _ _ _ rfl) (by omega) (by omega) ?_
        refine zw_mmax 22 rfl dX5_greatest_19 kmX5_28 ⟨Nat.le_of_ble_eq_true rfl, Nat.le_of_ble_eq_true rfl⟩ (by omega) (by have := hd i (by omega); simp only [Int.toNat_natCast]; omega) ?_
        refine zw_istore_n 23 rfl dX5_greatest_22 (Nat.le_of_ble_eq_true rfl) rfl ?_
        refine zw_iinc 26 rfl dX5_greatest_23 (Nat.le_of_ble_eq_true rfl) rfl rfl ?_
        refine zw_goto 4 dX5_greatest_26 (by decide) ?_
        subst hF
        exact ih (i + 1) (by omega) (by omega)
  refine zw_iconst 1 rfl dX5_greatest_0 ?_
  refine zw_istore_n 2 rfl dX5_greatest_1 (Nat.le_of_ble_eq_true rfl) rfl ?_
  refine zw_iconst 3 rfl dX5_greatest_2 ?_
  refine zw_istore_n 4 rfl dX5_greatest_3 (Nat.le_of_ble_eq_true rfl) rfl ?_
  exact loop ((σ a 1 * σ a 2).toNat + 1) 0 (by omega) (by omega)
theorem c_together {G : zG} {S : zSh} {σ τ : zSt} {a sa : Nat} (hp : zPic S a sa) (hw : zPW σ a) : zC G M_X5_together [.ref a] (S, σ, τ) (zR (some (vi (zfold (fun d m => m + σ sa d) (σ a 1 * σ a 2).toNat 0))) (S, σ, τ)) := by
  have hp0 := hp
  have hw0 := hw
  obtain ⟨ha, hs, hsa, hne⟩ := hp
  obtain ⟨⟨w0, w1⟩, w2, w3⟩ := hw
  refine zC_of 2 rfl (Nat.le_of_ble_eq_true rfl) ?_
  generalize hF : (fun (d : Nat) (m : Int) => m + σ sa d) = F
  have rng : ∀ i : Nat, (i : Int) ≤ σ a 1 * σ a 2 → True := fun _ _ => trivial
  have hcn := zz_wh ⟨w0, w1⟩ ⟨w2, w3⟩
  have loop : ∀ (n i : Nat), (i : Int) ≤ σ a 1 * σ a 2 → σ a 1 * σ a 2 - i < n → zW G M_X5_together (zR (some (vi (zfold F (σ a 1 * σ a 2).toNat 0))) (S, σ, τ)) 4 [some (.ref a), some (vi (zfold F i 0)), some (vi i)] [] (S, σ, τ) := by
    intro n
    induction n with
    | zero => intro i h1 h2; omega
    | succ n ih =>
      intro i h1 h2
      have hr := rng i h1
      refine zw_iload_n 5 rfl dX5_together_4 rfl ?_
      refine zw_aload_n 6 rfl dX5_together_5 rfl ?_
      refine zw_cVi0 9 rfl dX5_together_6 kX5_together_48 (Nat.le_of_ble_eq_true rfl) (by first | assumption | exact zx_o0 | exact zx_o _ _ _ rfl) (c_count hp0) ?_
      refine zw_icmp_ge 27 12 rfl dX5_together_9 (by decide) (by omega) (by omega) (fun h_9 => ?_) (fun h_9 => ?_)
      · refine zw_iload_n 28 rfl dX5_together_27 rfl ?_
        exact zw_iretR dX5_together_28 rfl (by rw [show i = (σ a 1 * σ a 2).toNat by omega]) rfl
      · refine zw_iload_n 13 rfl dX5_together_12 rfl ?_
        refine zw_aload_n 14 rfl dX5_together_13 rfl ?_
        refine zw_getr 17 rfl dX5_together_14 fl_X5_9 (by first | assumption | exact zx_o0 | exact zx_o _ _ _ rfl) (by first | assumption | exact zx_f0 _ _ rfl | exact zx_f _ _ _ rfl) ?_
        refine zw_iload_n 18 rfl dX5_together_17 rfl ?_
        refine zw_iald 19 rfl dX5_together_18 (by first | assumption | exact zx_o0 | exact zx_o _ _ _ rfl) (by omega) (by omega) ?_
        refine zw_iadd 20 rfl dX5_together_19 ?_
        refine zw_istore_n 21 rfl dX5_together_20 (Nat.le_of_ble_eq_true rfl) rfl ?_
        refine zw_iinc 24 rfl dX5_together_21 (Nat.le_of_ble_eq_true rfl) rfl rfl ?_
        refine zw_goto 4 dX5_together_24 (by decide) ?_
        subst hF
        exact ih (i + 1) (by omega) (by omega)
  refine zw_iconst 1 rfl dX5_together_0 ?_
  refine zw_istore_n 2 rfl dX5_together_1 (Nat.le_of_ble_eq_true rfl) rfl ?_
  refine zw_iconst 3 rfl dX5_together_2 ?_
  refine zw_istore_n 4 rfl dX5_together_3 (Nat.le_of_ble_eq_true rfl) rfl ?_
  exact loop ((σ a 1 * σ a 2).toNat + 1) 0 (by omega) (by omega)
/-! ===== Arrays.fill ===== -/
theorem c_fillI {G : zG} {S : zSh} {σ τ : zSt} {a n : Nat} {v : Int} (ha : zo S a 12 n) (hn : n ≤ 1000) : zC G M_J7_fill_53178 [.ref a, vi v] (S, σ, τ) (zR none (S, zr σ a (fun j => if j < n then v else σ a j), τ)) := by
  refine zC_of 2 rfl (Nat.le_of_ble_eq_true rfl) ?_
  have loop : ∀ (k i : Nat), i ≤ n → n - i < k → zW G M_J7_fill_53178 (zR none (S, zr σ a (fun j => if j < n then v else σ a j), τ)) 5 [some (.ref a), some (vi v), some (vi i), some (vi n)] [] (S, zr σ a (fun j => if j < i then v else σ a j), τ) := by
    intro k
    induction k with
    | zero => intro i h1 h2; omega
    | succ k ih =>
      intro i h1 h2
      refine zw_iload_n 6 rfl dJ7_fill_53178_5 rfl ?_
      refine zw_iload_n 7 rfl dJ7_fill_53178_6 rfl ?_
      refine zw_icmp_ge 20 10 rfl dJ7_fill_53178_7 (by decide) (by omega) (by omega) (fun h_7 => ?_) (fun h_7 => ?_)
      · exact zw_vretR dJ7_fill_53178_20 rfl (by rw [show i = n by omega])
      · refine zw_aload_n 11 rfl dJ7_fill_53178_10 rfl ?_
        refine zw_iload_n 12 rfl dJ7_fill_53178_11 rfl ?_
        refine zw_iload_n 13 rfl dJ7_fill_53178_12 rfl ?_
        refine zw_iast 14 rfl dJ7_fill_53178_13 (by first | assumption | exact zx_o0 | exact zx_o _ _ _ rfl) (by omega) (by omega) ?_
        refine zw_iinc 17 rfl dJ7_fill_53178_14 (Nat.le_of_ble_eq_true rfl) rfl rfl ?_
        refine zw_goto 5 dJ7_fill_53178_17 (by decide) ?_
        rw [zu_zr, show (fun j => if j = (i : Int).toNat then v else if j < i then v else σ a j) = (fun j => if j < i + 1 then v else σ a j) from funext fun j => by simp only [Int.toNat_natCast]; (repeat' split) <;> first | rfl | omega]
        exact ih (i + 1) (by omega) (by omega)
  refine zw_iconst 1 rfl dJ7_fill_53178_0 ?_
  refine zw_istore_n 2 rfl dJ7_fill_53178_1 (Nat.le_of_ble_eq_true rfl) rfl ?_
  refine zw_aload_n 3 rfl dJ7_fill_53178_2 rfl ?_
  refine zw_alen 4 rfl dJ7_fill_53178_3 (by assumption) (by decide) ?_
  refine zw_istore_n 5 rfl dJ7_fill_53178_4 (Nat.le_of_ble_eq_true rfl) rfl ?_
  have := loop (n + 1) 0 (by omega) (by omega)
  rw [show (zr σ a fun j => if j < 0 then v else σ a j) = σ from zr_self σ a] at this
  exact this
theorem c_fillL {G : zG} {S : zSh} {σ τ : zSt} {a n : Nat} {v : Int} (ha : zo S a 13 n) (hn : n ≤ 1000) : zC G M_J7_fill_d0a16 [.ref a, vl v] (S, σ, τ) (zR none (S, σ, zr τ a (fun j => if j < n then v else τ a j))) := by
  refine zC_of 2 rfl (Nat.le_of_ble_eq_true rfl) ?_
  have loop : ∀ (k i : Nat), i ≤ n → n - i < k → zW G M_J7_fill_d0a16 (zR none (S, σ, zr τ a (fun j => if j < n then v else τ a j))) 6 [some (.ref a), some (vl v), none, some (vi i), some (vi n)] [] (S, σ, zr τ a (fun j => if j < i then v else τ a j)) := by
    intro k
    induction k with
    | zero => intro i h1 h2; omega
    | succ k ih =>
      intro i h1 h2
      refine zw_iload_n 7 rfl dJ7_fill_d0a16_6 rfl ?_
      refine zw_iload 9 rfl dJ7_fill_d0a16_7 rfl ?_
      refine zw_icmp_ge 22 12 rfl dJ7_fill_d0a16_9 (by decide) (by omega) (by omega) (fun h_9 => ?_) (fun h_9 => ?_)
      · exact zw_vretR dJ7_fill_d0a16_22 rfl (by rw [show i = n by omega])
      · refine zw_aload_n 13 rfl dJ7_fill_d0a16_12 rfl ?_
        refine zw_iload_n 14 rfl dJ7_fill_d0a16_13 rfl ?_
        refine zw_lload_n 15 rfl dJ7_fill_d0a16_14 rfl ?_
        refine zw_last 16 rfl dJ7_fill_d0a16_15 (by first | assumption | exact zx_o0 | exact zx_o _ _ _ rfl) (by omega) (by omega) ?_
        refine zw_iinc 19 rfl dJ7_fill_d0a16_16 (Nat.le_of_ble_eq_true rfl) rfl rfl ?_
        refine zw_goto 6 dJ7_fill_d0a16_19 (by decide) ?_
        rw [zu_zr, show (fun j => if j = (i : Int).toNat then v else if j < i then v else τ a j) = (fun j => if j < i + 1 then v else τ a j) from funext fun j => by simp only [Int.toNat_natCast]; (repeat' split) <;> first | rfl | omega]
        exact ih (i + 1) (by omega) (by omega)
  refine zw_iconst 1 rfl dJ7_fill_d0a16_0 ?_
  refine zw_istore_n 2 rfl dJ7_fill_d0a16_1 (Nat.le_of_ble_eq_true rfl) rfl ?_
  refine zw_aload_n 3 rfl dJ7_fill_d0a16_2 rfl ?_
  refine zw_alen 4 rfl dJ7_fill_d0a16_3 (by assumption) (by decide) ?_
  refine zw_istore 6 rfl dJ7_fill_d0a16_4 (Nat.le_of_ble_eq_true rfl) rfl ?_
  have := loop (n + 1) 0 (by omega) (by omega)
  rw [show (zr τ a fun j => if j < 0 then v else τ a j) = τ from zr_self τ a] at this
  exact this
/-! ===== small static ones ===== -/
theorem c_within {G : zG} {S : zSh} {σ τ : zSt} {v l m : Int} (hv : -2147483648 ≤ v ∧ v ≤ 2147483647) (hl : -2147483648 ≤ l ∧ l ≤ 2147483647) (hm : -2147483648 ≤ m ∧ m ≤ 2147483647) : zC G M_X10_within [vi v, vi l, vi m] (S, σ, τ) (zR (some (vi (zb (l ≤ v ∧ v ≤ m)))) (S, σ, τ)) := by
  refine zC_of 0 rfl (Nat.le_of_ble_eq_true rfl) ?_
  refine zw_iload_n 1 rfl dX10_within_0 rfl ?_
  refine zw_iload_n 2 rfl dX10_within_1 rfl ?_
  refine zw_icmp_lt 14 5 rfl dX10_within_2 (by decide) (by omega) (by omega) (fun h_2 => ?_) (fun h_2 => ?_)
  · refine zw_iconst 15 rfl dX10_within_14 ?_
    exact zw_zretR dX10_within_15 rfl (by omega) (by first | exact zb_t (by omega) | exact zb_f (by omega)) rfl
  · refine zw_iload_n 6 rfl dX10_within_5 rfl ?_
    refine zw_iload_n 7 rfl dX10_within_6 rfl ?_
    refine zw_icmp_gt 14 10 rfl dX10_within_7 (by decide) (by omega) (by omega) (fun h_7 => ?_) (fun h_7 => ?_)
    · refine zw_iconst 15 rfl dX10_within_14 ?_
      exact zw_zretR dX10_within_15 rfl (by omega) (by first | exact zb_t (by omega) | exact zb_f (by omega)) rfl
    · refine zw_iconst 11 rfl dX10_within_10 ?_
      refine zw_goto 15 dX10_within_11 (by decide) ?_
      exact zw_zretR dX10_within_15 rfl (by omega) (by first | exact zb_t (by omega) | exact zb_f (by omega)) rfl
theorem c_isPlace {G : zG} {S : zSh} {σ τ : zSt} {v : Int} (hv : -2147483648 ≤ v ∧ v ≤ 2147483647) : zC G M_X10_isPlace [vi v] (S, σ, τ) (zR (some (vi (zb (0 ≤ v ∧ v ≤ 5)))) (S, σ, τ)) := by
  refine zC_of 0 rfl (Nat.le_of_ble_eq_true rfl) ?_
  refine zw_iload_n 1 rfl dX10_isPlace_0 rfl ?_
  refine zw_iconst 2 rfl dX10_isPlace_1 ?_
  refine zw_iconst 3 rfl dX10_isPlace_2 ?_
  refine zw_cSi3 6 rfl dX10_isPlace_3 kX10_isPlace_101 (Nat.le_of_ble_eq_true rfl) (c_within hv (by omega) (by omega)) ?_
  exact zw_zretR dX10_isPlace_6 rfl (zb_01 _) rfl rfl
theorem c_isShade {G : zG} {S : zSh} {σ τ : zSt} {v : Int} (hv : -2147483648 ≤ v ∧ v ≤ 2147483647) : zC G M_X10_isShade [vi v] (S, σ, τ) (zR (some (vi (zb (0 ≤ v ∧ v ≤ 255)))) (S, σ, τ)) := by
  refine zC_of 0 rfl (Nat.le_of_ble_eq_true rfl) ?_
  refine zw_iload_n 1 rfl dX10_isShade_0 rfl ?_
  refine zw_iconst 2 rfl dX10_isShade_1 ?_
  refine zw_sipush 5 rfl dX10_isShade_2 rfl ?_
  refine zw_cSi3 8 rfl dX10_isShade_5 kX10_isShade_101 (Nat.le_of_ble_eq_true rfl) (c_within hv (by omega) (by omega)) ?_
  exact zw_zretR dX10_isShade_8 rfl (zb_01 _) rfl rfl
theorem c_isBlurs {G : zG} {S : zSh} {σ τ : zSt} {v : Int} (hv : -2147483648 ≤ v ∧ v ≤ 2147483647) : zC G M_X10_isBlurs [vi v] (S, σ, τ) (zR (some (vi (zb (0 ≤ v ∧ v ≤ 3)))) (S, σ, τ)) := by
  refine zC_of 0 rfl (Nat.le_of_ble_eq_true rfl) ?_
  refine zw_iload_n 1 rfl dX10_isBlurs_0 rfl ?_
  refine zw_iconst 2 rfl dX10_isBlurs_1 ?_
  refine zw_iconst 3 rfl dX10_isBlurs_2 ?_
  refine zw_cSi3 6 rfl dX10_isBlurs_3 kX10_isBlurs_101 (Nat.le_of_ble_eq_true rfl) (c_within hv (by omega) (by omega)) ?_
  exact zw_zretR dX10_isBlurs_6 rfl (zb_01 _) rfl rfl
theorem c_isGridSize {G : zG} {S : zSh} {σ τ : zSt} {u v : Int} (hu : -2147483648 ≤ u ∧ u ≤ 2147483647) (hv : -2147483648 ≤ v ∧ v ≤ 2147483647) : zC G M_X10_isGridSize [vi u, vi v] (S, σ, τ) (zR (some (vi (zb ((1 ≤ u ∧ u ≤ 8) ∧ 8 ≤ v ∧ v ≤ 128)))) (S, σ, τ)) := by
  refine zC_of 0 rfl (Nat.le_of_ble_eq_true rfl) ?_
  refine zw_iload_n 1 rfl dX10_isGridSize_0 rfl ?_
  refine zw_iconst 2 rfl dX10_isGridSize_1 ?_
  refine zw_bipush 4 rfl dX10_isGridSize_2 rfl ?_
  refine zw_cSi3 7 rfl dX10_isGridSize_4 kX10_isGridSize_101 (Nat.le_of_ble_eq_true rfl) (c_within (by omega) (by omega) (by omega)) ?_
  refine zw_if_eqB 26 10 rfl dX10_isGridSize_7 (by decide) (fun h_7 => ?_) (fun h_7 => ?_)
  · refine zw_iconst 27 rfl dX10_isGridSize_26 ?_
    exact zw_zretR dX10_isGridSize_27 rfl (by omega) (by first | exact zb_t (by omega) | exact zb_f (by omega)) rfl
  · refine zw_iload_n 11 rfl dX10_isGridSize_10 rfl ?_
    refine zw_bipush 13 rfl dX10_isGridSize_11 rfl ?_
    refine zw_sipush 16 rfl dX10_isGridSize_13 rfl ?_
    refine zw_cSi3 19 rfl dX10_isGridSize_16 kX10_isGridSize_101 (Nat.le_of_ble_eq_true rfl) (c_within (by omega) (by omega) (by omega)) ?_
    refine zw_if_eqB 26 22 rfl dX10_isGridSize_19 (by decide) (fun h_19 => ?_) (fun h_19 => ?_)
    · refine zw_iconst 27 rfl dX10_isGridSize_26 ?_
      exact zw_zretR dX10_isGridSize_27 rfl (by omega) (by first | exact zb_t (by omega) | exact zb_f (by omega)) rfl
    · refine zw_iconst 23 rfl dX10_isGridSize_22 ?_
      refine zw_goto 27 dX10_isGridSize_23 (by decide) ?_
      exact zw_zretR dX10_isGridSize_27 rfl (by omega) (by first | exact zb_t (by omega) | exact zb_f (by omega)) rfl
theorem c_held {G : zG} {S : zSh} {σ τ : zSt} {v : Int} (hv : -2147483648 ≤ v ∧ v ≤ 2147483647) : zC G M_X10_held [vi v] (S, σ, τ) (zR (some (vi (zhold 255 v))) (S, σ, τ)) := by
  refine zC_of 0 rfl (Nat.le_of_ble_eq_true rfl) ?_
  refine zw_iconst 1 rfl dX10_held_0 ?_
  refine zw_sipush 4 rfl dX10_held_1 rfl ?_
  refine zw_iload_n 5 rfl dX10_held_4 rfl ?_
  refine zw_mmin 8 rfl dX10_held_5 kmX10_417 ⟨Nat.le_of_ble_eq_true rfl, Nat.le_of_ble_eq_true rfl⟩ (by omega) (by omega) ?_
  refine zw_mmax 11 rfl dX10_held_8 kmX10_342 ⟨Nat.le_of_ble_eq_true rfl, Nat.le_of_ble_eq_true rfl⟩ (by omega) (by split <;> omega) ?_
  exact zw_iretR dX10_held_11 rfl (by unfold zhold; (repeat' split) <;> omega) rfl
/-- the nearest whole number, of two as near the lower -/
def znear (a b : Int) : Int := if b < 2 * (a % b) then a / b + 1 else a / b
theorem znear_eq {a b : Int} (ha : 0 ≤ a) (hb : 0 < b) : (2 * a + b - 1) / (2 * b) = znear a b := by
  have h1 := Int.emod_add_mul_ediv a b
  have h2 := Int.emod_nonneg a (show b ≠ 0 by omega)
  have h3 := Int.emod_lt_of_pos a hb
  unfold znear
  generalize a / b = q at *
  generalize a % b = r at *
  have e : 2 * a + b - 1 = (2 * r + b - 1) + 2 * b * q := by rw [← h1, Int.mul_assoc]; omega
  rw [e, Int.add_mul_ediv_left _ _ (show 2 * b ≠ 0 by omega)]
  split
  · rw [show (2 * r + b - 1) = (2 * r - b - 1) + 2 * b * 1 by omega, Int.add_mul_ediv_left _ _ (show 2 * b ≠ 0 by omega), Int.ediv_eq_zero_of_lt (by omega) (by omega)]; omega
  · rw [Int.ediv_eq_zero_of_lt (by omega) (by omega)]; omega
theorem znear_r {a b m : Int} (ha : 0 ≤ a) (hb : 0 < b) (hm : a ≤ m * b) : 0 ≤ znear a b ∧ znear a b ≤ m := by
  have h1 := Int.emod_add_mul_ediv a b
  have h2 := Int.emod_nonneg a (show b ≠ 0 by omega)
  have h3 := Int.emod_lt_of_pos a hb
  have h4 : 0 ≤ a / b := Int.ediv_nonneg ha (by omega)
  have h5 : a / b ≤ m := Int.ediv_le_of_le_mul hb hm
  unfold znear
  split
  · rename_i h
    have h6 : a / b ≠ m := by
      intro h7
      rw [h7] at h1
      have : b * m = m * b := Int.mul_comm b m
      omega
    omega
  · omega
theorem c_nearest {G : zG} {S : zSh} {σ τ : zSt} {u v : Int} (hu : 0 ≤ u ∧ u ≤ 2000000000000000000) (hv : 0 < v ∧ v ≤ 2000000000000000000) : zC G M_X10_nearest [vl u, vl v] (S, σ, τ) (zR (some (vi (znear u v))) (S, σ, τ)) := by
  refine zC_of 0 rfl (Nat.le_of_ble_eq_true rfl) ?_
  refine zw_lload_n 1 rfl dX10_nearest_0 rfl ?_
  refine zw_lconst 2 rfl dX10_nearest_1 ?_
  refine zw_lcmp 3 rfl dX10_nearest_2 (by omega) (by omega) ?_
  refine zw_if_gt 10 6 rfl dX10_nearest_3 (by decide) (by (repeat' split) <;> omega) (fun h_3 => ?_) (fun h_3 => ?_)
  · refine zw_ldc2_w 13 rfl dX10_nearest_10 kX10_423 ?_
    refine zw_lload_n 14 rfl dX10_nearest_13 rfl ?_
    refine zw_lmul 15 rfl dX10_nearest_14 ?_
    refine zw_lload_n 16 rfl dX10_nearest_15 rfl ?_
    refine zw_ladd 17 rfl dX10_nearest_16 ?_
    refine zw_lconst 18 rfl dX10_nearest_17 ?_
    refine zw_lsub 19 rfl dX10_nearest_18 ?_
    refine zw_ldc2_w 22 rfl dX10_nearest_19 kX10_423 ?_
    refine zw_lload_n 23 rfl dX10_nearest_22 rfl ?_
    refine zw_lmul 24 rfl dX10_nearest_23 ?_
    refine zw_ldiv 25 rfl dX10_nearest_24 (by omega) (by omega) ?_
    refine zw_l2i 26 rfl dX10_nearest_25 ?_
    exact zw_iretR dX10_nearest_26 rfl (znear_eq hu.1 hv.1) rfl
  · exfalso
    rw [if_neg (by simp; omega), if_neg (by simp; omega)] at h_3
    omega
