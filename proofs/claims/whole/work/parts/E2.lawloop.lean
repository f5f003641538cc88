/-! ===== the law's loop ===== -/
/-- letter's case, as it is owed -/
def l45 (G : zG) (B b L : Nat) (xs : Nat → Int32) : Prop := ∀ (σ τ σ2 τ2 : zSt) (u : Int) (cb sb : Nat) (i : Int) (A : zA), L ≤ 3584 → 0 ≤ i ∧ i + 7 ≤ L → cb + 1 ≤ 601024 → sb + 6 ≤ 7293034 → zxR B σ τ A → zmR (B + 86) σ2 τ2 A → lEnd G B b L xs (cb + 1) (sb + 6) i → gV (lX G B b L xs) (lH G B σ τ σ2 τ2 u cb sb) 2318 (lLv b B i) []
theorem l_63 (x : Int32) : ∃ w : Nat, w < 64 ∧ (zI x.toInt &&& zI 63).toInt = (w : Int) := by
  obtain ⟨j, hj, e⟩ := pk_andE (zI x.toInt) (m := zI 63) 6 (by decide)
  refine ⟨j, by omega, ?_⟩
  rw [e]
  exact nI_toInt (by omega)
theorem l_loop {G : zG} {B b L : Nat} {xs : Nat → Int32} (hL : L ≤ 3584) (h45 : l45 G B b L xs) : ∀ (n j : Nat) (i : Int), i = 7 * (j : Int) → j ≤ 512 → 513 - j ≤ n → ∀ (σ τ σ2 τ2 : zSt) (u : Int) (A : zA), zxR B σ τ A → zmR (B + 86) σ2 τ2 A → gV (lX G B b L xs) (lH G B σ τ σ2 τ2 u (111 + 1 * j) (127017 + 6 * j)) 23 (lLv b B i) [] := by
  intro n
  induction n with
  | zero => intro j i _ h1 h2; omega
  | succ n ih =>
    intro j i hj h1 h2 σ τ σ2 τ2 u A hx hm
    refine gv_iload 25 rfl dL_law_23 rfl ?_
    refine gv_aload_n 26 rfl dL_law_25 rfl ?_
    refine l_slen 27 rfl dL_law_26 ?_
    refine gv_bipush 29 rfl dL_law_27 rfl ?_
    refine gv_isub 30 rfl dL_law_29 ?_
    refine gv_icmp_gt 2418 33 rfl dL_law_30 rfl (by omega) (by omega) (fun h => ?_) (fun h => ?_)
    · refine gv_iconst 2419 rfl dL_law_2418 ?_
      exact l_ret dL_law_2419
    · have hi : 0 ≤ i ∧ i + 7 ≤ L := by omega
      have hE : lEnd G B b L xs (111 + 1 * j + 1) (127017 + 6 * j + 6) i := by
        intro σ τ σ2 τ2 u A hx hm
        refine gv_iinc 2415 rfl dL_law_2412 (Nat.le_of_ble_eq_true rfl) rfl rfl ?_
        refine gv_goto 23 dL_law_2415 rfl ?_
        exact ih (j + 1) (i + 7) (by omega) (by omega) (by omega) σ τ σ2 τ2 u A hx hm
      have hE0 : lEnd G B b L xs (111 + 1 * j) (127017 + 6 * j) i := fun σ τ σ2 τ2 u A hx hm => l_more (by omega) (by omega) (by omega) (by omega) (hE σ τ σ2 τ2 u A hx hm)
      refine gv_aload_n 34 rfl dL_law_33 rfl ?_
      refine gv_iload 36 rfl dL_law_34 rfl ?_
      refine l_sld 37 rfl dL_law_36 (by omega) hL ?_
      refine gv_bipush 39 rfl dL_law_37 rfl ?_
      refine gv_iand 40 rfl dL_law_39 ?_
      obtain ⟨w, hw, e⟩ := l_63 (xs i.toNat)
      rw [e]
      match w, hw with
      | 0, _ => exact gv_tableIn 248 dL_law_40 (by decide) (by decide) (by decide) rfl rfl (L_0 hL hi hx hm hE0)
      | 1, _ => exact gv_tableIn 321 dL_law_40 (by decide) (by decide) (by decide) rfl rfl (L_1 hL hi hx hm hE0)
      | 2, _ => exact gv_tableIn 346 dL_law_40 (by decide) (by decide) (by decide) rfl rfl (L_2 hL hi hx hm hE0)
      | 3, _ => exact gv_tableIn 359 dL_law_40 (by decide) (by decide) (by decide) rfl rfl (L_3 hL hi hx hm hE0)
      | 4, _ => exact gv_tableIn 372 dL_law_40 (by decide) (by decide) (by decide) rfl rfl (L_4 hL hi hx hm hE0)
      | 5, _ => exact gv_tableIn 409 dL_law_40 (by decide) (by decide) (by decide) rfl rfl (L_5 hL hi hx hm hE0)
      | 6, _ => exact gv_tableIn 458 dL_law_40 (by decide) (by decide) (by decide) rfl rfl (L_6 hL hi hx hm hE0)
      | 7, _ => exact gv_tableIn 495 dL_law_40 (by decide) (by decide) (by decide) rfl rfl (L_7 hL hi hx hm hE0)
      | 8, _ => exact gv_tableIn 556 dL_law_40 (by decide) (by decide) (by decide) rfl rfl (L_8 hL hi hx hm hE0)
      | 9, _ => exact gv_tableIn 617 dL_law_40 (by decide) (by decide) (by decide) rfl rfl (L_9 hL hi hx hm hE0)
      | 10, _ => exact gv_tableIn 666 dL_law_40 (by decide) (by decide) (by decide) rfl rfl (L_10 hL hi hx hm hE0)
      | 11, _ => exact gv_tableIn 753 dL_law_40 (by decide) (by decide) (by decide) rfl rfl (L_11 hL hi hx hm hE0)
      | 12, _ => exact gv_tableIn 802 dL_law_40 (by decide) (by decide) (by decide) rfl rfl (L_12 hL hi hx hm hE0)
      | 13, _ => exact gv_tableIn 863 dL_law_40 (by decide) (by decide) (by decide) rfl rfl (L_13 hL hi hx hm hE0)
      | 14, _ => exact gv_tableIn 888 dL_law_40 (by decide) (by decide) (by decide) rfl rfl (L_14 hL hi hx hm hE0)
      | 15, _ => exact gv_tableIn 950 dL_law_40 (by decide) (by decide) (by decide) rfl rfl (L_15 hL hi hx hm hE0)
      | 16, _ => exact gv_tableIn 987 dL_law_40 (by decide) (by decide) (by decide) rfl rfl (L_16 hL hi hx hm hE0)
      | 17, _ => exact gv_tableIn 1013 dL_law_40 (by decide) (by decide) (by decide) rfl rfl (L_17 hL hi hx hm hE0)
      | 18, _ => exact gv_tableIn 1038 dL_law_40 (by decide) (by decide) (by decide) rfl rfl (L_18 hL hi hx hm hE0)
      | 19, _ => exact gv_tableIn 1100 dL_law_40 (by decide) (by decide) (by decide) rfl rfl (L_19 hL hi hx hm hE0)
      | 20, _ => exact gv_tableIn 1137 dL_law_40 (by decide) (by decide) (by decide) rfl rfl (L_20 hL hi hx hm hE0)
      | 21, _ => exact gv_tableIn 1224 dL_law_40 (by decide) (by decide) (by decide) rfl rfl (L_21 hL hi hx hm hE0)
      | 22, _ => exact gv_tableIn 1273 dL_law_40 (by decide) (by decide) (by decide) rfl rfl (L_22 hL hi hx hm hE0)
      | 23, _ => exact gv_tableIn 1322 dL_law_40 (by decide) (by decide) (by decide) rfl rfl (L_23 hL hi hx hm hE0)
      | 24, _ => exact gv_tableIn 1383 dL_law_40 (by decide) (by decide) (by decide) rfl rfl (L_24 hL hi hx hm hE0)
      | 25, _ => exact gv_tableIn 1432 dL_law_40 (by decide) (by decide) (by decide) rfl rfl (L_25 hL hi hx hm hE0)
      | 26, _ => exact gv_tableIn 1481 dL_law_40 (by decide) (by decide) (by decide) rfl rfl (L_26 hL hi hx hm hE0)
      | 27, _ => exact gv_tableIn 1518 dL_law_40 (by decide) (by decide) (by decide) rfl rfl (L_27 hL hi hx hm hE0)
      | 28, _ => exact gv_tableIn 1567 dL_law_40 (by decide) (by decide) (by decide) rfl rfl (L_28 hL hi hx hm hE0)
      | 29, _ => exact gv_tableIn 1616 dL_law_40 (by decide) (by decide) (by decide) rfl rfl (L_29 hL hi hx hm hE0)
      | 30, _ => exact gv_tableIn 1677 dL_law_40 (by decide) (by decide) (by decide) rfl rfl (L_30 hL hi hx hm hE0)
      | 31, _ => exact gv_tableIn 1714 dL_law_40 (by decide) (by decide) (by decide) rfl rfl (L_31 hL hi hx hm hE0)
      | 32, _ => exact gv_tableIn 1801 dL_law_40 (by decide) (by decide) (by decide) rfl rfl (L_32 hL hi hx hm hE0)
      | 33, _ => exact gv_tableIn 1862 dL_law_40 (by decide) (by decide) (by decide) rfl rfl (L_33 hL hi hx hm hE0)
      | 34, _ => exact gv_tableIn 1911 dL_law_40 (by decide) (by decide) (by decide) rfl rfl (L_34 hL hi hx hm hE0)
      | 35, _ => exact gv_tableIn 1948 dL_law_40 (by decide) (by decide) (by decide) rfl rfl (L_35 hL hi hx hm hE0)
      | 36, _ => exact gv_tableIn 2009 dL_law_40 (by decide) (by decide) (by decide) rfl rfl (L_36 hL hi hx hm hE0)
      | 37, _ => exact gv_tableIn 2070 dL_law_40 (by decide) (by decide) (by decide) rfl rfl (L_37 hL hi hx hm hE0)
      | 38, _ => exact gv_tableIn 2107 dL_law_40 (by decide) (by decide) (by decide) rfl rfl (L_38 hL hi hx hm hE0)
      | 39, _ => exact gv_tableIn 2144 dL_law_40 (by decide) (by decide) (by decide) rfl rfl (L_39 hL hi hx hm hE0)
      | 40, _ => exact gv_tableIn 2193 dL_law_40 (by decide) (by decide) (by decide) rfl rfl (L_40 hL hi hx hm hE0)
      | 41, _ => exact gv_tableIn 2218 dL_law_40 (by decide) (by decide) (by decide) rfl rfl (L_41 hL hi hx hm hE0)
      | 42, _ => exact gv_tableIn 2255 dL_law_40 (by decide) (by decide) (by decide) rfl rfl (L_42 hL hi hx hm hE0)
      | 43, _ => exact gv_tableIn 2268 dL_law_40 (by decide) (by decide) (by decide) rfl rfl (L_43 hL hi hx hm hE0)
      | 44, _ => exact gv_tableIn 2293 dL_law_40 (by decide) (by decide) (by decide) rfl rfl (L_44 hL hi hx hm hE0)
      | 45, _ => exact gv_tableIn 2318 dL_law_40 (by decide) (by decide) (by decide) rfl rfl (h45 _ _ _ _ _ _ _ _ _ hL hi (by omega) (by omega) hx hm hE)
      | 46, _ => exact gv_tableIn 2386 dL_law_40 (by decide) (by decide) (by decide) rfl rfl (L_46 hL hi hx hm hE0)
      | 47, _ => exact gv_tableIn 2399 dL_law_40 (by decide) (by decide) (by decide) rfl rfl (L_47 hL hi hx hm hE0)
      | w + 48, hw => exact gv_tableOut 2412 dL_law_40 (by omega) (Or.inr (by omega)) rfl (hE0 _ _ _ _ _ _ hx hm)
theorem whole_0 {p : Program} {e : Env} {s : State} {m : MethodId} {below : List Frame} {meth : Method} {c : Code} (l : Launch) (hflags : l.flags = flags0) {b L : Nat} {xs : Nat → Int32} (hL : L ≤ 3584) (C0 : lw_At p s m meth c b L xs) (h45 : ∀ G : zG, l45 G s.heap.size b L xs) : W p l e room_1 s m #[Value.ref b] below meth c s.heap [] 0 0 (lw_Z below #[Value.ref b] s) (entryFrame m ([Value.ref b] : List Value).toArray 7) := by
  obtain ⟨hx, hb, hr, hml, hown, hts, hX, hbl, hlocks, hgv⟩ := id C0
  obtain ⟨G, hA, hK, hN, hZ, hAO⟩ := lk_G hts hgv
  have hl := lv_entry ([.ref b]) (n := 7) (Nat.le_of_ble_eq_true rfl)
  rw [lg_entry_eq]
  generalize hB : s.heap.size = B at h45
  rw [hB] at hA
  have g : gV (lX G B b L xs) (lK G B (fun _ => True) (kS B 0 0, z0, z0) B 0 0) 0 (zent [.ref b] ++ List.replicate 6 none) [] := by
    refine l_new (N := 18) 3 rfl dL_law_0 nw_L_8 (by decide) (kS_k (n := 0) rfl) (kS_none (n := 0) (by decide +kernel)) rfl rfl (by decide) (fun _ _ _ _ h => h) ?_
    have e1 := kS_push B 0 0
    rw [Nat.add_zero] at e1
    rw [e1]
    refine gv_dup 4 rfl dL_law_3 rfl ?_
    refine l_icall (D0 := B) (mc' := 85) (ms' := 8581) 7 rfl dL_law_4 mI_X10_init mi_L_15 ⟨Nat.le_of_ble_eq_true rfl, Nat.le_of_ble_eq_true rfl⟩ (Nat.le_of_ble_eq_true rfl) (by decide) (Nat.le_refl _) (zD_rng (fun q h1 _ => h1)) (fun _ _ _ _ h => h) (K_X10_0 (G := lGd G B) (fun q h => h)) ?_
    refine gv_astore_n 8 rfl dL_law_7 (Nat.le_of_ble_eq_true rfl) rfl ?_
    have g2 : gV (lX G B b L xs) (lK G B (fun H => va_P (zgD G) vwCl (z_ws G (zxS B, z0, z0)) H) (kM (B + 86) 0 0, z0, z0) (B + 86) 86 8599) 8 [some (.ref b), some (.ref B), none, none, none, none, none] [] := by
      refine l_new (N := 47) 11 rfl dL_law_8 nw_L_16 (by decide) (kM_k (n := 0) rfl) (by funext j; show (if B + 86 = B + 86 then Option.map _ (List.lookup j []) else none) = none; rw [if_pos rfl]; rfl) rfl rfl (by decide) (fun H H1 hz hk hp k x hx => (hp k x hx).kept (hk x.1 (by rw [← hz]; exact (hp k x hx).lt))) ?_
      have e2 := kM_push (B + 86) 0 0
      rw [Nat.add_zero] at e2
      rw [e2]
      refine gv_dup 12 rfl dL_law_11 rfl ?_
      refine l_icall (D0 := B + 86) (mc' := 23) (ms' := 118370) 15 rfl dL_law_12 mI_X11_init mi_L_18 ⟨Nat.le_of_ble_eq_true rfl, Nat.le_of_ble_eq_true rfl⟩ (Nat.le_of_ble_eq_true rfl) (by decide) (by omega) (zD_rng (fun q h1 _ => h1)) (fun H H1 hz hk hp => l_frame (A := fun q => B + 86 ≤ q) rfl hp (fun q h1 h2 h3 => by omega) (fun q h1 h2 => hk q h1 (Nat.not_le.mp h2))) (K_X11 (G := lGd G (B + 86)) (fun q h => h)) ?_
      refine gv_astore_n 16 rfl dL_law_15 (Nat.le_of_ble_eq_true rfl) rfl ?_
      refine gv_iconst 17 rfl dL_law_16 ?_
      refine l_out 19 rfl dL_law_17 (fun _ h => h) (by decide) (by omega) ?_
      refine gv_astore_n 20 rfl dL_law_19 (Nat.le_of_ble_eq_true rfl) rfl ?_
      refine gv_iconst 21 rfl dL_law_20 ?_
      refine gv_istore 23 rfl dL_law_21 (Nat.le_of_ble_eq_true rfl) rfl ?_
      exact l_loop hL (h45 G) 513 0 0 rfl (by omega) (by omega) _ _ _ _ _ _ (zxR_0 B) (zmR_0 (B + 86))
    intro p l e s m args below meth c H locs ls cells slots hc hl hh
    obtain ⟨a1, a2, a3, a4, a5, a6, a7⟩ := hh
    refine g2 p l e s m args below meth c H locs ls cells slots hc hl ⟨?_, ?_, a3, a4, a5, a6, a7⟩
    · rw [← kS_end]; exact a2
    · intro k x hx; simp [z_ws, va_pl, kM] at hx
  exact g p l e s m _ below meth c s.heap [] _ 0 0 ⟨hx, hb, rfl, C0, hflags, hK, hN, hZ, hAO, hA, hB⟩ ⟨_, hl, fun i v hi => by have := zent_in [Value.ref b] 0 i v (zent_pad [Value.ref b] 6 i v hi); rw [Nat.zero_add] at this; exact this⟩ ⟨trivial, fun k x hx => by simp [z_ws, va_pl, kS] at hx, va_S.rf, hB, rfl, rfl, rfl⟩
