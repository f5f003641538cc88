/-- a picture has been put at a place, by an act -/
def xActed (B : Nat) (σ σ' : zSt) (P : Nat → zPc) (Hs : List (Nat → zPc)) (to : Nat) (p : zPc) : Prop := xrP B σ' (va_up P to p) ∧ xrH B σ' (va_up P to p) ((P :: Hs).take 10) ∧ ∀ b, (b < B + 6 ∨ B + 29 ≤ b) → b ≠ zpa B to → b ≠ zpa B to + 1 → σ' b = σ b
theorem xActed.of {B k m to : Nat} {σ : zSt} {P : Nat → zPc} {Hs : List (Nat → zPc)} {p : zPc} (hP : xrP B σ P) (hH : xrH B σ P Hs) (hw : xrPic σ (B + 2) p) (ht : to < 6) (hk : σ (B + 6) 2 = (k : Nat) ∧ k < 10) (hm : σ (B + 6) 3 = (m : Nat) ∧ m ≤ 10) :
    xActed B σ (zbec (zu (zu (zbec (zu σ (B + 8) k to) (zha B k) (zha B k + 1) (zpa B to) (zpa B to + 1)) (B + 6) 2 (if k < 9 then (k : Int) + 1 else 0)) (B + 6) 3 (if m < 10 then (m : Int) + 1 else 10)) (zpa B to) (zpa B to + 1) (B + 2) (B + 2 + 1)) P Hs to p := by
  generalize hσ1 : zu (zu (zbec (zu σ (B + 8) k to) (zha B k) (zha B k + 1) (zpa B to) (zpa B to + 1)) (B + 6) 2 (if k < 9 then (k : Int) + 1 else 0)) (B + 6) 3 (if m < 10 then (m : Int) + 1 else 10) = σ1
  have o1 : ∀ b, b ≠ B + 6 → b ≠ B + 8 → b ≠ zha B k → b ≠ zha B k + 1 → σ1 b = σ b := fun b h1 h2 h3 h4 => by
    rw [← hσ1, zu_row _ _ h1, zu_row _ _ h1, zbec_o _ h3 h4, zu_row _ _ h2]
  have o2 : ∀ b, b ≠ zpa B to → b ≠ zpa B to + 1 → zbec σ1 (zpa B to) (zpa B to + 1) (B + 2) (B + 2 + 1) b = σ1 b := fun b h1 h2 => zbec_o _ h1 h2
  have hks := hk.2
  have n1 : σ1 (B + 6) 2 = if k < 9 then (k : Int) + 1 else 0 := by rw [← hσ1]; simp [zu]
  have n2 : σ1 (B + 6) 3 = if m < 10 then (m : Int) + 1 else 10 := by rw [← hσ1]; simp [zu]
  have p8 : ∀ j : Nat, j ≠ (k : Int).toNat → σ1 (B + 8) j = σ (B + 8) j := fun j hj => by
    rw [← hσ1, zu_row _ _ (by omega), zu_row _ _ (by omega), zbec_o _ (by simp only [zha]; omega) (by simp only [zha]; omega)]
    exact zu_k _ _ (by omega)
  have p8k : σ1 (B + 8) k = to := by
    rw [← hσ1, zu_row _ _ (by omega), zu_row _ _ (by omega), zbec_o _ (by simp only [zha]; omega) (by simp only [zha]; omega), zu_eq]
  have hb : xrPic σ1 (zha B k) (P to) := by
    have h0 : xrPic (zu σ (B + 8) k to) (zpa B to) (P to) := (hP to ht).c (zu_row _ _ (by simp only [zpa]; omega)) (zu_row _ _ (by simp only [zpa]; omega))
    have h1 := h0.bec (a := zha B k)
    refine h1.c ?_ ?_
    · rw [← hσ1, zu_row _ _ (by simp only [zha]; omega), zu_row _ _ (by simp only [zha]; omega)]
    · rw [← hσ1, zu_row _ _ (by simp only [zha]; omega), zu_row _ _ (by simp only [zha]; omega)]
  have hmm : m = Hs.length := by have := hH.2.1; omega
  refine ⟨fun i hi => ?_, ⟨?_, ?_, ?_, ?_⟩, fun b h1 h2 h3 => ?_⟩
  · by_cases hit : i = to
    · subst hit
      rw [va_up_self]
      have h0 : xrPic σ1 (B + 2) p := hw.c (o1 _ (by omega) (by omega) (by simp only [zha]; omega) (by simp only [zha]; omega)) (o1 _ (by omega) (by omega) (by simp only [zha]; omega) (by simp only [zha]; omega))
      exact h0.bec
    · rw [va_up_ne _ _ hit]
      refine (hP i hi).c ?_ ?_
      · rw [o2 _ (by simp only [zpa]; omega) (by simp only [zpa]; omega), o1 _ (by simp only [zpa]; omega) (by simp only [zpa]; omega) (by simp only [zpa, zha]; omega) (by simp only [zpa, zha]; omega)]
      · rw [o2 _ (by simp only [zpa]; omega) (by simp only [zpa]; omega), o1 _ (by simp only [zpa]; omega) (by simp only [zpa]; omega) (by simp only [zpa, zha]; omega) (by simp only [zpa, zha]; omega)]
  · rw [o2 _ (by simp only [zpa]; omega) (by simp only [zpa]; omega), n1]; split <;> omega
  · rw [o2 _ (by simp only [zpa]; omega) (by simp only [zpa]; omega), n2, List.length_take, List.length_cons]; split <;> omega
  · rw [List.length_take]; omega
  · rw [o2 _ (by simp only [zpa]; omega) (by simp only [zpa]; omega), n1, show (P :: Hs).take 10 = P :: Hs.take 9 from rfl]
    have hz : zprv (if k < 9 then (k : Int) + 1 else 0) = k := by unfold zprv; split <;> split <;> omega
    refine ⟨⟨to, ht, ?_, fun i hi => va_up_ne _ _ hi, ?_⟩, ?_⟩
    · rw [hz, Int.toNat_natCast, o2 _ (by simp only [zpa]; omega) (by simp only [zpa]; omega), p8k]
    · rw [hz, Int.toNat_natCast]
      exact hb.c (o2 _ (by simp only [zpa, zha]; omega) (by simp only [zpa, zha]; omega)) (o2 _ (by simp only [zpa, zha]; omega) (by simp only [zpa, zha]; omega))
    · rw [hz]
      have h9 := xrHs.take Hs 9 _ _ hH.2.2.2
      rw [hk.1] at h9
      refine xrHs.ring (n := k) (by omega) (fun b q1 q2 q3 q4 => ?_) (fun j hj => ?_) (Hs.take 9) k 0 P (by omega) (by omega) (by rw [List.length_take]; omega) h9
      · rw [o2 _ (by simp only [zpa]; omega) (by simp only [zpa]; omega)]
        rw [Int.toNat_natCast] at q3 q4
        exact o1 b (by omega) (by omega) q3 q4
      · rw [o2 _ (by simp only [zpa]; omega) (by simp only [zpa]; omega)]
        exact p8 j hj
  · rw [o2 b h2 h3, o1 b (by omega) (by omega) (by simp only [zha]; omega) (by simp only [zha]; omega)]
theorem c_actOn {G : zG} {B : Nat} {σ τ : zSt} {P : Nat → zPc} {Hs : List (Nat → zPc)} {p : zPc} {to : Int} (hP : xrP B σ P) (hH : xrH B σ P Hs) (hw : xrPic σ (B + 2) p) (ht : aPl to) : zC G M_X10_actOn [.ref B, vi to] (zxS B, σ, τ) (fun r w' => r = none ∧ ∃ σ' : zSt, w' = (zxS B, σ', τ) ∧ xActed B σ σ' P Hs to.toNat p) := by
  obtain ⟨k, hk⟩ : ∃ k : Nat, σ (B + 6) 2 = k := ⟨(σ (B + 6) 2).toNat, by have := hH.1; omega⟩
  have hk10 : k < 10 := by have := hH.1; omega
  have hm := hH.2.1
  have ht6 : to.toNat < 6 := by omega
  have htc : ((to.toNat : Nat) : Int) = to := by omega
  refine zC_of 0 rfl (Nat.le_of_ble_eq_true rfl) ?_
  refine zw_iload_n 1 rfl dX10_actOn_0 rfl ?_
  refine zw_cSi1 4 rfl dX10_actOn_1 kX10_actOn_191 (Nat.le_of_ble_eq_true rfl) (c_isPlace (by omega)) ?_
  refine zw_if_eqB 34 7 rfl dX10_actOn_4 (by decide) (fun h_4 => ?_) (fun h_4 => ?_)
  · first | exact absurd ht h_4 | exact zw_vret (st := []) dX10_actOn_34 rfl ⟨rfl, _, rfl, by have := xActed.of (k := k) (m := Hs.length) hP hH hw ht6 ⟨hk, hk10⟩ ⟨hm, hH.2.2.1⟩; rw [htc] at this; exact this⟩
  · refine zw_aload_n 8 rfl dX10_actOn_7 rfl ?_
    refine zw_getr 11 rfl dX10_actOn_8 fl_X10_26 (by first | assumption | exact zx_o0 | exact zx_o _ _ _ rfl) (by first | assumption | exact zx_f0 _ _ rfl | exact zx_f _ _ _ rfl) ?_
    refine zw_iload_n 12 rfl dX10_actOn_11 rfl ?_
    refine zw_aload_n 13 rfl dX10_actOn_12 rfl ?_
    refine zw_getr 16 rfl dX10_actOn_13 fl_X10_11 (by first | assumption | exact zx_o0 | exact zx_o _ _ _ rfl) (by first | assumption | exact zx_f0 _ _ rfl | exact zx_f _ _ _ rfl) ?_
    refine zw_iload_n 17 rfl dX10_actOn_16 rfl ?_
    refine zw_aald 18 rfl dX10_actOn_17 (by first | assumption | exact zx_o0 | exact zx_o _ _ _ rfl) (by omega) (by omega) (zx_p6r ht6) ?_
    refine zw_cVv2 21 rfl dX10_actOn_18 kX10_actOn_410 (Nat.le_of_ble_eq_true rfl) (by first | assumption | exact zx_o0 | exact zx_o _ _ _ rfl) (c_remember (zx_p6 ht6) ⟨hk, hk10⟩ ⟨hm, hH.2.2.1⟩ (by simp only [zpa]; omega)) ?_
    refine zw_aload_n 22 rfl dX10_actOn_21 rfl ?_
    refine zw_getr 25 rfl dX10_actOn_22 fl_X10_11 (by first | assumption | exact zx_o0 | exact zx_o _ _ _ rfl) (by first | assumption | exact zx_f0 _ _ rfl | exact zx_f _ _ _ rfl) ?_
    refine zw_iload_n 26 rfl dX10_actOn_25 rfl ?_
    refine zw_aald 27 rfl dX10_actOn_26 (by first | assumption | exact zx_o0 | exact zx_o _ _ _ rfl) (by omega) (by omega) (zx_p6r ht6) ?_
    refine zw_aload_n 28 rfl dX10_actOn_27 rfl ?_
    refine zw_getr 31 rfl dX10_actOn_28 fl_X10_16 (by first | assumption | exact zx_o0 | exact zx_o _ _ _ rfl) (by first | assumption | exact zx_f0 _ _ rfl | exact zx_f _ _ _ rfl) ?_
    refine zw_cVv1 34 rfl dX10_actOn_31 kX10_actOn_137 (Nat.le_of_ble_eq_true rfl) (zx_p6 ht6).1 (c_become (zx_p6 ht6) zx_work (by simp only [zpa]; omega) (by simp only [zpa]; omega)) ?_
    first | exact absurd ht h_4 | exact zw_vret (st := []) dX10_actOn_34 rfl ⟨rfl, _, rfl, by have := xActed.of (k := k) (m := Hs.length) hP hH hw ht6 ⟨hk, hk10⟩ ⟨hm, hH.2.2.1⟩; rw [htc] at this; exact this⟩
