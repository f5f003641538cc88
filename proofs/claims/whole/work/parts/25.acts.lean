/-! ===== acts ===== -/
theorem zbec_o (σ : zSt) {a sa b sb c : Nat} (h1 : c ≠ a) (h2 : c ≠ sa) : zbec σ a sa b sb c = σ c := by
  unfold zbec
  rw [zr_ne _ _ h2, zu_row _ _ h1, zu_row _ _ h1]
theorem zbec_1 (σ : zSt) {a sa b sb : Nat} (h : sa ≠ a) : zbec σ a sa b sb a 1 = σ b 1 ∧ zbec σ a sa b sb a 2 = σ b 2 := by
  unfold zbec
  constructor <;> simp [zr, zu, Ne.symm h]
theorem xrPic.bec {σ : zSt} {a b : Nat} {p : zPc} (h : xrPic σ b p) : xrPic (zbec σ a (a + 1) b (b + 1)) a p := by
  obtain ⟨h1, h2, h3⟩ := h
  have e := zbec_1 σ (a := a) (sa := a + 1) (b := b) (sb := b + 1) (by omega)
  unfold xrPic zPW
  rw [e.1, e.2]
  refine ⟨h1, h2, fun h0 => ?_⟩
  obtain ⟨g1, g2, g3⟩ := h3 h0
  refine ⟨g1, g2, fun x y hx hy => ?_⟩
  obtain ⟨q1, q2⟩ := g3 x y hx hy
  refine ⟨?_, q2⟩
  have hix := zz_ix hx hy (by rw [← h2]; exact h1.1.2) (by rw [← g1]; exact h1.2.2)
  unfold zbec
  rw [zr_eq]
  show (if (y * p.1 + x).toNat < 192 then _ else _) = _
  rw [if_pos (by omega)]
  exact q1
theorem xrHs.ring {B : Nat} {σ σ' : zSt} {n : Int} (hn : 0 ≤ n ∧ n ≤ 9) (hc : ∀ b, B + 8 < b → b < B + 29 → b ≠ zha B n.toNat → b ≠ zha B n.toNat + 1 → σ' b = σ b) (h8 : ∀ j : Nat, j ≠ n.toNat → σ' (B + 8) j = σ (B + 8) j) : ∀ (Hs : List (Nat → zPc)) (k e : Int) (P : Nat → zPc), k = (n - e) % 10 → 0 ≤ e → e + Hs.length ≤ 9 → xrHs B σ k P Hs → xrHs B σ' k P Hs
  | [], _, _, _, _, _, _, _ => trivial
  | S :: r, k, e, P, hk, he, hl, ⟨⟨p, h1, h2, h3, h4⟩, h5⟩ => by
    simp only [List.length_cons] at hl
    have hz : zprv k = (n - (e + 1)) % 10 := by unfold zprv; split <;> omega
    have hne : zprv k ≠ n := by omega
    have hr : 0 ≤ zprv k ∧ zprv k ≤ 9 := by omega
    refine ⟨⟨p, h1, by rw [h8 _ (by omega)]; exact h2, h3, h4.c (hc _ (by simp only [zha]; omega) (by simp only [zha]; omega) (by simp only [zha]; omega) (by simp only [zha]; omega)) (hc _ (by simp only [zha]; omega) (by simp only [zha]; omega) (by simp only [zha]; omega) (by simp only [zha]; omega))⟩, xrHs.ring hn hc h8 r (zprv k) (e + 1) S hz (by omega) (by omega) h5⟩
theorem xrHs.take {B : Nat} {σ : zSt} : ∀ (Hs : List (Nat → zPc)) (n : Nat) (k : Int) (P : Nat → zPc), xrHs B σ k P Hs → xrHs B σ k P (Hs.take n)
  | [], n, _, _, _ => by simp [xrHs]
  | S :: r, 0, _, _, _ => trivial
  | S :: r, n + 1, k, P, ⟨h1, h2⟩ => ⟨h1, xrHs.take r n (zprv k) S h2⟩
theorem c_remember {G : zG} {B : Nat} {σ τ : zSt} {a k m : Nat} {v : Int} (hp : zPic (zxS B) a (a + 1)) (hk : σ (B + 6) 2 = k ∧ k < 10) (hm : σ (B + 6) 3 = m ∧ m ≤ 10) (hn : a < B + 9 ∧ a + 1 ≠ B + 8 ∧ a ≠ B + 8 ∧ a ≠ B + 6 ∧ a + 1 ≠ B + 6 ∧ a + 1 < B + 9 ∨ B + 29 ≤ a) : zC G M_X0_remember [.ref (B + 6), vi v, .ref a] (zxS B, σ, τ) (zR none (zxS B, zu (zu (zbec (zu σ (B + 8) k v) (zha B k) (zha B k + 1) a (a + 1)) (B + 6) 2 (if k < 9 then (k : Int) + 1 else 0)) (B + 6) 3 (if m < 10 then (m : Int) + 1 else 10), τ)) := by
  have hp0 := hp
  obtain ⟨ha, hs, hsa, hne⟩ := hp
  have hk10 : k < 10 := hk.2
  have e6 : ∀ j, zbec (zu σ (B + 8) k v) (zha B k) (zha B k + 1) a (a + 1) (B + 6) j = σ (B + 6) j := fun j => by rw [zbec_o _ (by simp only [zha]; omega) (by simp only [zha]; omega), zu_row _ _ (by omega)]
  have e5 : zu σ (B + 8) k v (B + 6) 2 = k := by rw [zu_row _ _ (by omega)]; exact hk.1
  refine zC_of 0 rfl (Nat.le_of_ble_eq_true rfl) ?_
  refine zw_aload_n 1 rfl dX0_remember_0 rfl ?_
  refine zw_getr 4 rfl dX0_remember_1 fl_X0_17 (by first | assumption | exact zx_o0 | exact zx_o _ _ _ rfl) (by first | assumption | exact zx_f0 _ _ rfl | exact zx_f _ _ _ rfl) ?_
  refine zw_aload_n 5 rfl dX0_remember_4 rfl ?_
  refine zw_geti 8 rfl dX0_remember_5 fl_X0_22 (by first | assumption | exact zx_o0 | exact zx_o _ _ _ rfl) ?_
  refine zw_iload_n 9 rfl dX0_remember_8 rfl ?_
  rw [hk.1]
  refine zw_iast 10 rfl dX0_remember_9 (by first | assumption | exact zx_o0 | exact zx_o _ _ _ rfl) (by omega) (by omega) ?_
  rw [Int.toNat_natCast]
  refine zw_aload_n 11 rfl dX0_remember_10 rfl ?_
  refine zw_getr 14 rfl dX0_remember_11 fl_X0_11 (by first | assumption | exact zx_o0 | exact zx_o _ _ _ rfl) (by first | assumption | exact zx_f0 _ _ rfl | exact zx_f _ _ _ rfl) ?_
  refine zw_aload_n 15 rfl dX0_remember_14 rfl ?_
  refine zw_geti 18 rfl dX0_remember_15 fl_X0_22 (by first | assumption | exact zx_o0 | exact zx_o _ _ _ rfl) ?_
  rw [e5]
  refine zw_aald 19 rfl dX0_remember_18 (by first | assumption | exact zx_o0 | exact zx_o _ _ _ rfl) (by omega) (by omega) (zx_h10r hk10) ?_
  simp only [Int.toNat_natCast]
  refine zw_aload_n 20 rfl dX0_remember_19 rfl ?_
  refine zw_cVv1 23 rfl dX0_remember_20 kX0_remember_26 (Nat.le_of_ble_eq_true rfl) (zx_h10 hk10).1 (c_become (zx_h10 hk10) hp0 (by simp only [zha]; omega) (by simp only [zha]; omega)) ?_
  refine zw_aload_n 24 rfl dX0_remember_23 rfl ?_
  refine zw_aload_n 25 rfl dX0_remember_24 rfl ?_
  refine zw_geti 28 rfl dX0_remember_25 fl_X0_22 (by first | assumption | exact zx_o0 | exact zx_o _ _ _ rfl) ?_
  refine zw_bipush 30 rfl dX0_remember_28 rfl ?_
  refine zw_icmp_ge 42 33 rfl dX0_remember_30 (by decide) (by rw [e6, hk.1]; omega) (by omega) (fun h_30 => ?_) (fun h_30 => ?_)
  · refine zw_iconst 43 rfl dX0_remember_42 ?_
    refine zw_puti 46 rfl dX0_remember_43 fp_X0_22 (by first | assumption | exact zx_o0 | exact zx_o _ _ _ rfl) ?_
    rw [e6, hk.1] at h_30
    refine zw_aload_n 47 rfl dX0_remember_46 rfl ?_
    refine zw_bipush 49 rfl dX0_remember_47 rfl ?_
    refine zw_aload_n 50 rfl dX0_remember_49 rfl ?_
    refine zw_geti 53 rfl dX0_remember_50 fl_X0_30 (by first | assumption | exact zx_o0 | exact zx_o _ _ _ rfl) ?_
    refine zw_iconst 54 rfl dX0_remember_53 ?_
    refine zw_iadd 55 rfl dX0_remember_54 ?_
    refine zw_mmin 58 rfl dX0_remember_55 kmX0_33 ⟨Nat.le_of_ble_eq_true rfl, Nat.le_of_ble_eq_true rfl⟩ (by omega) (by simp only [zu]; simp; rw [e6, hm.1]; omega) ?_
    refine zw_puti 61 rfl dX0_remember_58 fp_X0_30 (by first | assumption | exact zx_o0 | exact zx_o _ _ _ rfl) ?_
    refine zw_vretR dX0_remember_61 rfl ?_
    have t : (if (m : Int) + 1 < 10 then (m : Int) + 1 else 10) = (if m < 10 then (m : Int) + 1 else 10) := by split <;> split <;> omega
    simp only [zu_k _ _ (show (3 : Nat) ≠ 2 by omega), e6, hk.1, hm.1, t]
    first | (rw [if_pos (show k < 9 by omega)]) | (rw [if_neg (show ¬ k < 9 by omega)])
  · refine zw_aload_n 34 rfl dX0_remember_33 rfl ?_
    refine zw_geti 37 rfl dX0_remember_34 fl_X0_22 (by first | assumption | exact zx_o0 | exact zx_o _ _ _ rfl) ?_
    refine zw_iconst 38 rfl dX0_remember_37 ?_
    refine zw_iadd 39 rfl dX0_remember_38 ?_
    refine zw_goto 43 dX0_remember_39 (by decide) ?_
    refine zw_puti 46 rfl dX0_remember_43 fp_X0_22 (by first | assumption | exact zx_o0 | exact zx_o _ _ _ rfl) ?_
    rw [e6, hk.1] at h_30
    refine zw_aload_n 47 rfl dX0_remember_46 rfl ?_
    refine zw_bipush 49 rfl dX0_remember_47 rfl ?_
    refine zw_aload_n 50 rfl dX0_remember_49 rfl ?_
    refine zw_geti 53 rfl dX0_remember_50 fl_X0_30 (by first | assumption | exact zx_o0 | exact zx_o _ _ _ rfl) ?_
    refine zw_iconst 54 rfl dX0_remember_53 ?_
    refine zw_iadd 55 rfl dX0_remember_54 ?_
    refine zw_mmin 58 rfl dX0_remember_55 kmX0_33 ⟨Nat.le_of_ble_eq_true rfl, Nat.le_of_ble_eq_true rfl⟩ (by omega) (by simp only [zu]; simp; rw [e6, hm.1]; omega) ?_
    refine zw_puti 61 rfl dX0_remember_58 fp_X0_30 (by first | assumption | exact zx_o0 | exact zx_o _ _ _ rfl) ?_
    refine zw_vretR dX0_remember_61 rfl ?_
    have t : (if (m : Int) + 1 < 10 then (m : Int) + 1 else 10) = (if m < 10 then (m : Int) + 1 else 10) := by split <;> split <;> omega
    simp only [zu_k _ _ (show (3 : Nat) ≠ 2 by omega), e6, hk.1, hm.1, t]
    first | (rw [if_pos (show k < 9 by omega)]) | (rw [if_neg (show ¬ k < 9 by omega)])
