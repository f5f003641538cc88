theorem zbec_ne {σ : zSt} {a sa b sb c : Nat} (h1 : c ≠ a) (h2 : c ≠ sa) : zbec σ a sa b sb c = σ c := by
  unfold zbec
  rw [zr_ne _ _ h2, zu_row _ _ h1, zu_row _ _ h1]
theorem c_spreadL {G : zG} {S : zSh} {σ τ : zSt} {l a b : Nat} {g : zGr} {s r n : Int} (hL : zLat S l) (hk : zGok g) (ha : zPic S a (a + 1)) (hb : zPic S b (b + 1)) (hpa : xrPic σ a g.1) (hpb : xrPic σ b g.2.1) (hna : l + 7 < a ∨ a + 1 < l) (hnb : l + 7 < b ∨ b + 1 < l) (hs : s = g.2.2.1) (hr : r = g.2.2.2.1) (h0 : n = g.2.2.2.2.1) (h1 : n = g.2.2.2.2.2.1) (h2 : n = g.2.2.2.2.2.2) : zC G M_X1_spread [.ref l, .ref a, .ref b, vi s, vi r, vi n] (S, σ, τ) (fun r w => r = none ∧ ∃ σ' : zSt, w = (S, σ', τ) ∧ (∀ b, (b < l ∨ l + 7 < b) → σ' b = σ b) ∧ xrL σ' l g) := by
  obtain ⟨ho, hf0, hf1, hf2, hf3, hf4, hp1, hp3, ho5, ho6, ho7⟩ := id hL
  refine zC_of 0 rfl (Nat.le_of_ble_eq_true rfl) ?_
  have q1 : xrPic (zbec σ (l + 1) (l + 1 + 1) a (a + 1)) (l + 1) g.1 := hpa.bec
  have q2 : xrPic (zbec σ (l + 1) (l + 1 + 1) a (a + 1)) b g.2.1 := hpb.c (zbec_ne (by omega) (by omega)) (zbec_ne (by omega) (by omega))
  have q3 : xrPic (zbec (zbec σ (l + 1) (l + 1 + 1) a (a + 1)) (l + 3) (l + 3 + 1) b (b + 1)) (l + 3) g.2.1 := q2.bec
  have q4 : xrPic (zbec (zbec σ (l + 1) (l + 1 + 1) a (a + 1)) (l + 3) (l + 3 + 1) b (b + 1)) (l + 1) g.1 := q1.c (zbec_ne (by omega) (by omega)) (zbec_ne (by omega) (by omega))
  have q5 : ∀ c, (c < l ∨ l + 7 < c) → zbec (zbec σ (l + 1) (l + 1 + 1) a (a + 1)) (l + 3) (l + 3 + 1) b (b + 1) c = σ c := fun c hc => by rw [zbec_ne (by omega) (by omega), zbec_ne (by omega) (by omega)]
  refine zw_aload_n 1 rfl dX1_spread_0 rfl ?_
  refine zw_getr 4 rfl dX1_spread_1 fl_X1_12 (by first | assumption | exact zx_o0 | exact zx_o _ _ _ rfl) (by first | assumption | exact zx_f0 _ _ rfl | exact zx_f _ _ _ rfl) ?_
  refine zw_aload_n 5 rfl dX1_spread_4 rfl ?_
  refine zw_cVv1 8 rfl dX1_spread_5 kX1_spread_35 (Nat.le_of_ble_eq_true rfl) hp1.1 (c_become hp1 ha (by omega) (by omega)) ?_
  refine zw_aload_n 9 rfl dX1_spread_8 rfl ?_
  refine zw_getr 12 rfl dX1_spread_9 fl_X1_18 (by first | assumption | exact zx_o0 | exact zx_o _ _ _ rfl) (by first | assumption | exact zx_f0 _ _ rfl | exact zx_f _ _ _ rfl) ?_
  refine zw_aload_n 13 rfl dX1_spread_12 rfl ?_
  refine zw_cVv1 16 rfl dX1_spread_13 kX1_spread_35 (Nat.le_of_ble_eq_true rfl) hp3.1 (c_become hp3 hb (by omega) (by omega)) ?_
  generalize zbec (zbec σ (l + 1) (l + 1 + 1) a (a + 1)) (l + 3) (l + 3 + 1) b (b + 1) = σ1 at *
  refine zw_aload_n 17 rfl dX1_spread_16 rfl ?_
  refine zw_iload_n 18 rfl dX1_spread_17 rfl ?_
  refine zw_puti 21 rfl dX1_spread_18 fp_X1_31 (by first | assumption | exact zx_o0 | exact zx_o _ _ _ rfl) ?_
  refine zw_aload_n 22 rfl dX1_spread_21 rfl ?_
  refine zw_iload 24 rfl dX1_spread_22 rfl ?_
  refine zw_puti 27 rfl dX1_spread_24 fp_X1_39 (by first | assumption | exact zx_o0 | exact zx_o _ _ _ rfl) ?_
  refine zw_aload_n 28 rfl dX1_spread_27 rfl ?_
  refine zw_getr 31 rfl dX1_spread_28 fl_X1_21 (by first | assumption | exact zx_o0 | exact zx_o _ _ _ rfl) (by first | assumption | exact zx_f0 _ _ rfl | exact zx_f _ _ _ rfl) ?_
  refine zw_iload 33 rfl dX1_spread_31 rfl ?_
  refine zw_cSv2 36 rfl dX1_spread_33 kX1_spread_42 (Nat.le_of_ble_eq_true rfl) (c_fillI ho5 (by omega)) ?_
  refine zw_aload_n 37 rfl dX1_spread_36 rfl ?_
  refine zw_cVr0 40 rfl dX1_spread_37 kX1_spread_48 (Nat.le_of_ble_eq_true rfl) (by first | assumption | exact zx_o0 | exact zx_o _ _ _ rfl) (c_bindPlaces (g := g) hL hk (q4.c (by rw [zr_ne _ _ (by omega), zu_row _ _ (by omega), zu_row _ _ (by omega)]) (by rw [zr_ne _ _ (by omega), zu_row _ _ (by omega), zu_row _ _ (by omega)])) (by rw [zr_ne _ _ (by omega), zu_k _ _ (by omega), zu_eq]; exact hs) (by rw [zr_eq]; exact h0) (by rw [zr_eq]; exact h1)) ?_
  rintro _ _ ⟨rfl, σ2, rfl, f1, f2, f3⟩
  refine zw_vret (st := []) dX1_spread_40 rfl ⟨rfl, _, rfl, fun c hc => by rw [f1 c (by omega) (by omega), zr_ne _ _ (by omega), zu_row _ _ (by omega), zu_row _ _ (by omega)]; exact q5 c hc, hk, ?_, ?_, ?_, ?_, ?_, ?_, ?_, f2, f3⟩
  · exact q4.c (by rw [f1 _ (by omega) (by omega), zr_ne _ _ (by omega), zu_row _ _ (by omega), zu_row _ _ (by omega)]) (by rw [f1 _ (by omega) (by omega), zr_ne _ _ (by omega), zu_row _ _ (by omega), zu_row _ _ (by omega)])
  · exact q3.c (by rw [f1 _ (by omega) (by omega), zr_ne _ _ (by omega), zu_row _ _ (by omega), zu_row _ _ (by omega)]) (by rw [f1 _ (by omega) (by omega), zr_ne _ _ (by omega), zu_row _ _ (by omega), zu_row _ _ (by omega)])
  · rw [f1 _ (by omega) (by omega), zr_ne _ _ (by omega), zu_k _ _ (by omega), zu_eq]; exact hs
  · rw [f1 _ (by omega) (by omega), zr_ne _ _ (by omega), zu_eq]; exact hr
  · rw [f1 _ (by omega) (by omega), zr_eq]; exact h0
  · rw [f1 _ (by omega) (by omega), zr_eq]; exact h1
  · rw [f1 _ (by omega) (by omega), zr_eq]; exact h2
/-- one blur more along a way -/
def zGb (g : zGr) (y : Int) : zGr := (g.1, g.2.1, g.2.2.1, g.2.2.2.1, (if y = 0 then g.2.2.2.2.1 + 1 else g.2.2.2.2.1, if y = 1 then g.2.2.2.2.2.1 + 1 else g.2.2.2.2.2.1, if y = 2 then g.2.2.2.2.2.2 + 1 else g.2.2.2.2.2.2))
def zGy (g : zGr) (y : Int) : Int := if y = 0 then g.2.2.2.2.1 else if y = 1 then g.2.2.2.2.2.1 else g.2.2.2.2.2.2
theorem xrL.y {σ : zSt} {l : Nat} {g : zGr} (h : xrL σ l g) {y : Int} (hy : 0 ≤ y ∧ y ≤ 2) : σ (l + 5) y.toNat = zGy g y := by
  obtain ⟨hk, hP, hP2, hs, hr, hb0, hb1, hb2, hA, hD⟩ := h
  unfold zGy
  rcases (show y = 0 ∨ y = 1 ∨ y = 2 by omega) with e | e | e <;> subst e
  · exact hb0
  · exact hb1
  · exact hb2
theorem c_blurAlong {G : zG} {S : zSh} {σ τ : zSt} {l : Nat} {g : zGr} {y : Int} (hL : zLat S l) (hg : xrL σ l g) (hy : 0 ≤ y ∧ y ≤ 2) (hy3 : zGy g y < 3) : zC G M_X1_blurAlong [.ref l, vi y] (S, σ, τ) (fun r w => r = none ∧ ∃ σ' : zSt, w = (S, σ', τ) ∧ (∀ b, (b ≤ l ∨ l + 7 < b) → σ' b = σ b) ∧ xrL σ' l (zGb g y)) := by
  obtain ⟨ho, hf0, hf1, hf2, hf3, hf4, hp1, hp3, ho5, ho6, ho7⟩ := id hL
  obtain ⟨hk, hP, hP2, hs, hr, hb0, hb1, hb2, hA, hD⟩ := id hg
  have hk' : zGok (zGb g y) := by
    unfold zGy at hy3
    unfold zGok at *
    obtain ⟨k1, k2, k3, k4, k5, k6, k7, k8, k9, k10⟩ := hk
    refine ⟨k1, k2, k3, k4, k5, k6, ?_, ?_, ?_, k10⟩
    · show 0 ≤ (if y = 0 then g.2.2.2.2.1 + 1 else g.2.2.2.2.1) ∧ (if y = 0 then g.2.2.2.2.1 + 1 else g.2.2.2.2.1) ≤ 3
      split at hy3 <;> (try split at hy3) <;> split <;> omega
    · show 0 ≤ (if y = 1 then g.2.2.2.2.2.1 + 1 else g.2.2.2.2.2.1) ∧ (if y = 1 then g.2.2.2.2.2.1 + 1 else g.2.2.2.2.2.1) ≤ 3
      split at hy3 <;> (try split at hy3) <;> split <;> omega
    · show 0 ≤ (if y = 2 then g.2.2.2.2.2.2 + 1 else g.2.2.2.2.2.2) ∧ (if y = 2 then g.2.2.2.2.2.2 + 1 else g.2.2.2.2.2.2) ≤ 3
      split at hy3 <;> (try split at hy3) <;> split <;> omega
  have hv := hg.y hy
  have ee : ∀ k : Nat, k ≤ 2 → zu σ (l + 5) y.toNat (zGy g y + 1) (l + 5) k = (if y = k then σ (l + 5) k + 1 else σ (l + 5) k) := fun k hk2 => by
    by_cases e : y = k
    · rw [if_pos e, e, Int.toNat_natCast, zu_eq, ← e, ← hv, e, Int.toNat_natCast]
    · rw [if_neg e, zu_k _ _ (by omega)]
  have e0 := ee 0 (by omega)
  have e1 := ee 1 (by omega)
  have e2 := ee 2 (by omega)
  rw [hb0] at e0
  rw [hb1] at e1
  rw [hb2] at e2
  refine zC_of 0 rfl (Nat.le_of_ble_eq_true rfl) ?_
  refine zw_iload_n 1 rfl dX1_blurAlong_0 rfl ?_
  refine zw_iconst 2 rfl dX1_blurAlong_1 ?_
  refine zw_iconst 3 rfl dX1_blurAlong_2 ?_
  refine zw_cSi3 6 rfl dX1_blurAlong_3 kX1_blurAlong_51 (Nat.le_of_ble_eq_true rfl) (c_within (by omega) (by omega) (by omega)) ?_
  refine zw_if_eqB 23 9 rfl dX1_blurAlong_6 (by decide) (fun h_6 => ?_) (fun h_6 => ?_)
  · first | exact absurd hy h_6 | exact zw_vret (st := []) dX1_blurAlong_23 rfl ⟨rfl, _, rfl, fun c hc => by rw [f1 c (by omega) (by omega), zu_row _ _ (by omega)], hk', hP.c (by rw [f1 _ (by omega) (by omega), zu_row _ _ (by omega)]) (by rw [f1 _ (by omega) (by omega), zu_row _ _ (by omega)]), hP2.c (by rw [f1 _ (by omega) (by omega), zu_row _ _ (by omega)]) (by rw [f1 _ (by omega) (by omega), zu_row _ _ (by omega)]), by rw [f1 _ (by omega) (by omega), zu_row _ _ (by omega)]; exact hs, by rw [f1 _ (by omega) (by omega), zu_row _ _ (by omega)]; exact hr, by rw [f1 _ (by omega) (by omega)]; exact e0, by rw [f1 _ (by omega) (by omega)]; exact e1, by rw [f1 _ (by omega) (by omega)]; exact e2, f2, f3⟩
  · refine zw_aload_n 10 rfl dX1_blurAlong_9 rfl ?_
    refine zw_getr 13 rfl dX1_blurAlong_10 fl_X1_21 (by first | assumption | exact zx_o0 | exact zx_o _ _ _ rfl) (by first | assumption | exact zx_f0 _ _ rfl | exact zx_f _ _ _ rfl) ?_
    refine zw_iload_n 14 rfl dX1_blurAlong_13 rfl ?_
    refine zw_dup2_11 15 rfl dX1_blurAlong_14 rfl rfl ?_
    refine zw_iald 16 rfl dX1_blurAlong_15 (by first | assumption | exact zx_o0 | exact zx_o _ _ _ rfl) (by omega) (by omega) ?_
    rw [hv]
    refine zw_iconst 17 rfl dX1_blurAlong_16 ?_
    refine zw_iadd 18 rfl dX1_blurAlong_17 ?_
    refine zw_iast 19 rfl dX1_blurAlong_18 (by first | assumption | exact zx_o0 | exact zx_o _ _ _ rfl) (by omega) (by omega) ?_
    refine zw_aload_n 20 rfl dX1_blurAlong_19 rfl ?_
    refine zw_cVr0 23 rfl dX1_blurAlong_20 kX1_blurAlong_48 (Nat.le_of_ble_eq_true rfl) (by first | assumption | exact zx_o0 | exact zx_o _ _ _ rfl) (c_bindPlaces (g := zGb g y) hL hk' (hP.c (by rw [zu_row _ _ (by omega)]) (by rw [zu_row _ _ (by omega)])) (by rw [zu_row _ _ (by omega)]; exact hs) e0 e1) ?_
    rintro _ _ ⟨rfl, σ2, rfl, f1, f2, f3⟩
    first | exact absurd hy h_6 | exact zw_vret (st := []) dX1_blurAlong_23 rfl ⟨rfl, _, rfl, fun c hc => by rw [f1 c (by omega) (by omega), zu_row _ _ (by omega)], hk', hP.c (by rw [f1 _ (by omega) (by omega), zu_row _ _ (by omega)]) (by rw [f1 _ (by omega) (by omega), zu_row _ _ (by omega)]), hP2.c (by rw [f1 _ (by omega) (by omega), zu_row _ _ (by omega)]) (by rw [f1 _ (by omega) (by omega), zu_row _ _ (by omega)]), by rw [f1 _ (by omega) (by omega), zu_row _ _ (by omega)]; exact hs, by rw [f1 _ (by omega) (by omega), zu_row _ _ (by omega)]; exact hr, by rw [f1 _ (by omega) (by omega)]; exact e0, by rw [f1 _ (by omega) (by omega)]; exact e1, by rw [f1 _ (by omega) (by omega)]; exact e2, f2, f3⟩
