/-! ===== neighbours, edges ===== -/
def zSt2 (q : zPc) (x y way : Int) : Int := if way = 0 then zStR q x y else zStD q x y
abbrev zNb (q : zPc) (x y way : Int) : Prop := if way = 0 then x + 1 < q.1 else y + 1 < q.2.1
theorem m_hasNb {G : zG} {C : Nat} {σ τ : zSt} {p x y way : Int} {q : zPc} (h : mPc C σ p q) (hx : 0 ≤ x ∧ x < q.1) (hy : 0 ≤ y ∧ y < q.2.1) (hw : way = 0 ∨ way = 1) : zC G M_X11_hasNeighbour [.ref C, vi p, vi x, vi y, vi way] (zmS C, σ, τ) (zR (some (vi (zb (zNb q x y way)))) (zmS C, σ, τ)) := by
  have hwh := h.wh
  refine zC_of 0 rfl (Nat.le_of_ble_eq_true rfl) ?_
  refine zw_iload 2 rfl dX11_hasNeighbour_0 rfl ?_
  refine zw_if_ne 24 5 rfl dX11_hasNeighbour_2 (by decide) (by omega) (fun h_2 => ?_) (fun h_2 => ?_)
  · refine zw_iload_n 25 rfl dX11_hasNeighbour_24 rfl ?_
    refine zw_iconst 26 rfl dX11_hasNeighbour_25 ?_
    refine zw_iadd 27 rfl dX11_hasNeighbour_26 ?_
    refine zw_aload_n 28 rfl dX11_hasNeighbour_27 rfl ?_
    refine zw_iload_n 29 rfl dX11_hasNeighbour_28 rfl ?_
    refine zw_cVi1 32 rfl dX11_hasNeighbour_29 kX11_hasNeighbour_176 (Nat.le_of_ble_eq_true rfl) (by first | assumption | exact zm_o0 | exact zm_o _ _ _ rfl) (m_highP h) ?_
    refine zw_icmp_ge 39 35 rfl dX11_hasNeighbour_32 (by decide) (by omega) (by omega) (fun h_32 => ?_) (fun h_32 => ?_)
    · refine zw_iconst 40 rfl dX11_hasNeighbour_39 ?_
      exact zw_zretR dX11_hasNeighbour_40 rfl (by omega) (by unfold zNb; first | (rw [zb_c (P := _) (P' := x + 1 < q.1) (by rw [if_pos h_2])]; first | exact zb_t (by omega) | exact zb_f (by omega)) | (rw [zb_c (P := _) (P' := y + 1 < q.2.1) (by rw [if_neg h_2])]; first | exact zb_t (by omega) | exact zb_f (by omega))) rfl
    · refine zw_iconst 36 rfl dX11_hasNeighbour_35 ?_
      refine zw_goto 40 dX11_hasNeighbour_36 (by decide) ?_
      exact zw_zretR dX11_hasNeighbour_40 rfl (by omega) (by unfold zNb; first | (rw [zb_c (P := _) (P' := x + 1 < q.1) (by rw [if_pos h_2])]; first | exact zb_t (by omega) | exact zb_f (by omega)) | (rw [zb_c (P := _) (P' := y + 1 < q.2.1) (by rw [if_neg h_2])]; first | exact zb_t (by omega) | exact zb_f (by omega))) rfl
  · refine zw_iload_n 6 rfl dX11_hasNeighbour_5 rfl ?_
    refine zw_iconst 7 rfl dX11_hasNeighbour_6 ?_
    refine zw_iadd 8 rfl dX11_hasNeighbour_7 ?_
    refine zw_aload_n 9 rfl dX11_hasNeighbour_8 rfl ?_
    refine zw_iload_n 10 rfl dX11_hasNeighbour_9 rfl ?_
    refine zw_cVi1 13 rfl dX11_hasNeighbour_10 kX11_hasNeighbour_170 (Nat.le_of_ble_eq_true rfl) (by first | assumption | exact zm_o0 | exact zm_o _ _ _ rfl) (m_wideP h) ?_
    refine zw_icmp_ge 20 16 rfl dX11_hasNeighbour_13 (by decide) (by omega) (by omega) (fun h_13 => ?_) (fun h_13 => ?_)
    · refine zw_iconst 21 rfl dX11_hasNeighbour_20 ?_
      refine zw_goto 40 dX11_hasNeighbour_21 (by decide) ?_
      exact zw_zretR dX11_hasNeighbour_40 rfl (by omega) (by unfold zNb; first | (rw [zb_c (P := _) (P' := x + 1 < q.1) (by rw [if_pos h_2])]; first | exact zb_t (by omega) | exact zb_f (by omega)) | (rw [zb_c (P := _) (P' := y + 1 < q.2.1) (by rw [if_neg h_2])]; first | exact zb_t (by omega) | exact zb_f (by omega))) rfl
    · refine zw_iconst 17 rfl dX11_hasNeighbour_16 ?_
      refine zw_goto 40 dX11_hasNeighbour_17 (by decide) ?_
      exact zw_zretR dX11_hasNeighbour_40 rfl (by omega) (by unfold zNb; first | (rw [zb_c (P := _) (P' := x + 1 < q.1) (by rw [if_pos h_2])]; first | exact zb_t (by omega) | exact zb_f (by omega)) | (rw [zb_c (P := _) (P' := y + 1 < q.2.1) (by rw [if_neg h_2])]; first | exact zb_t (by omega) | exact zb_f (by omega))) rfl
def zOt (q : zPc) (x y way : Int) : Int := if way = 0 then q.2.2 (x + 1) y else q.2.2 x (y + 1)
theorem zNb_0 {q : zPc} {x y way : Int} (h : zNb q x y way) (h0 : way = 0) : x + 1 < q.1 := by unfold zNb at h; rw [if_pos h0] at h; exact h
theorem zNb_1 {q : zPc} {x y way : Int} (h : zNb q x y way) (h0 : ¬ way = 0) : y + 1 < q.2.1 := by unfold zNb at h; rw [if_neg h0] at h; exact h
theorem m_other {G : zG} {C : Nat} {σ τ : zSt} {p x y way : Int} {q : zPc} (h : mPc C σ p q) (hx : 0 ≤ x ∧ x < q.1) (hy : 0 ≤ y ∧ y < q.2.1) (hw : way = 0 ∨ way = 1) (hn : zNb q x y way) : zC G M_X11_other [.ref C, vi p, vi x, vi y, vi way] (zmS C, σ, τ) (zR (some (vi (zOt q x y way))) (zmS C, σ, τ)) := by
  have hwh := h.wh
  refine zC_of 0 rfl (Nat.le_of_ble_eq_true rfl) ?_
  refine zw_iload 2 rfl dX11_other_0 rfl ?_
  refine zw_if_ne 17 5 rfl dX11_other_2 (by decide) (by omega) (fun h_2 => ?_) (fun h_2 => ?_)
  · have n1 := zNb_1 hn h_2
    refine zw_aload_n 18 rfl dX11_other_17 rfl ?_
    refine zw_iload_n 19 rfl dX11_other_18 rfl ?_
    refine zw_iload_n 20 rfl dX11_other_19 rfl ?_
    refine zw_iload_n 21 rfl dX11_other_20 rfl ?_
    refine zw_iconst 22 rfl dX11_other_21 ?_
    refine zw_iadd 23 rfl dX11_other_22 ?_
    refine zw_cVi3 26 rfl dX11_other_23 kX11_other_182 (Nat.le_of_ble_eq_true rfl) (by first | assumption | exact zm_o0 | exact zm_o _ _ _ rfl) (m_dotP h (by omega) (by omega)) ?_
    exact zw_iretR dX11_other_26 rfl (by unfold zOt; first | (rw [if_pos h_2]; done) | (rw [if_neg h_2]; done)) rfl
  · have n1 := zNb_0 hn h_2
    refine zw_aload_n 6 rfl dX11_other_5 rfl ?_
    refine zw_iload_n 7 rfl dX11_other_6 rfl ?_
    refine zw_iload_n 8 rfl dX11_other_7 rfl ?_
    refine zw_iconst 9 rfl dX11_other_8 ?_
    refine zw_iadd 10 rfl dX11_other_9 ?_
    refine zw_iload_n 11 rfl dX11_other_10 rfl ?_
    refine zw_cVi3 14 rfl dX11_other_11 kX11_other_182 (Nat.le_of_ble_eq_true rfl) (by first | assumption | exact zm_o0 | exact zm_o _ _ _ rfl) (m_dotP h (by omega) (by omega)) ?_
    refine zw_goto 26 dX11_other_14 (by decide) ?_
    exact zw_iretR dX11_other_26 rfl (by unfold zOt; first | (rw [if_pos h_2]; done) | (rw [if_neg h_2]; done)) rfl
theorem zOt_r {C : Nat} {σ : zSt} {p x y way : Int} {q : zPc} (h : mPc C σ p q) (hx : 0 ≤ x ∧ x < q.1) (hy : 0 ≤ y ∧ y < q.2.1) (hn : zNb q x y way) : 0 ≤ zOt q x y way ∧ zOt q x y way ≤ 255 := by
  unfold zOt
  by_cases h0 : way = 0
  · have := zNb_0 hn h0; rw [if_pos h0]; exact h.d (by omega) (by omega)
  · have := zNb_1 hn h0; rw [if_neg h0]; exact h.d (by omega) (by omega)
theorem zSt2_n {q : zPc} {x y way : Int} (hx : 0 ≤ x ∧ x < q.1) (hy : 0 ≤ y ∧ y < q.2.1) (hn : ¬ zNb q x y way) : zSt2 q x y way = -1 := by
  unfold zSt2 zStR zStD
  unfold zNb at hn
  by_cases h0 : way = 0
  · rw [if_pos h0] at hn ⊢; rw [if_neg (by omega)]
  · rw [if_neg h0] at hn ⊢; rw [if_neg (by omega)]
theorem zSt2_y {q : zPc} {x y way : Int} (hx : 0 ≤ x ∧ x < q.1) (hy : 0 ≤ y ∧ y < q.2.1) (hn : zNb q x y way) : zSt2 q x y way = zab (q.2.2 x y - zOt q x y way) := by
  unfold zSt2 zStR zStD zOt
  by_cases h0 : way = 0
  · have := zNb_0 hn h0; rw [if_pos h0, if_pos h0, if_pos (by omega)]
  · have := zNb_1 hn h0; rw [if_neg h0, if_neg h0, if_pos (by omega)]
theorem m_isEdge {G : zG} {C : Nat} {σ τ : zSt} {p x y way t : Int} {q : zPc} (h : mPc C σ p q) (hx : 0 ≤ x ∧ x < q.1) (hy : 0 ≤ y ∧ y < q.2.1) (hw : way = 0 ∨ way = 1) (ht : 0 ≤ t ∧ t ≤ 255) : zC G M_X11_isEdge [.ref C, vi p, vi x, vi y, vi way, vi t] (zmS C, σ, τ) (zR (some (vi (zb (t ≤ zSt2 q x y way)))) (zmS C, σ, τ)) := by
  have hwh := h.wh
  have hd := h.d hx hy
  refine zC_of 1 rfl (Nat.le_of_ble_eq_true rfl) ?_
  refine zw_aload_n 1 rfl dX11_isEdge_0 rfl ?_
  refine zw_iload_n 2 rfl dX11_isEdge_1 rfl ?_
  refine zw_iload_n 3 rfl dX11_isEdge_2 rfl ?_
  refine zw_iload_n 4 rfl dX11_isEdge_3 rfl ?_
  refine zw_iload 6 rfl dX11_isEdge_4 rfl ?_
  refine zw_cVi4 9 rfl dX11_isEdge_6 kX11_isEdge_344 (Nat.le_of_ble_eq_true rfl) (by first | assumption | exact zm_o0 | exact zm_o _ _ _ rfl) (m_hasNb h hx hy hw) ?_
  refine zw_if_neB 14 12 rfl dX11_isEdge_9 (by decide) (fun h_9 => ?_) (fun h_9 => ?_)
  · have ho := zOt_r h hx hy h_9
    refine zw_aload_n 15 rfl dX11_isEdge_14 rfl ?_
    refine zw_iload_n 16 rfl dX11_isEdge_15 rfl ?_
    refine zw_iload_n 17 rfl dX11_isEdge_16 rfl ?_
    refine zw_iload_n 18 rfl dX11_isEdge_17 rfl ?_
    refine zw_cVi3 21 rfl dX11_isEdge_18 kX11_isEdge_182 (Nat.le_of_ble_eq_true rfl) (by first | assumption | exact zm_o0 | exact zm_o _ _ _ rfl) (m_dotP h hx hy) ?_
    refine zw_aload_n 22 rfl dX11_isEdge_21 rfl ?_
    refine zw_iload_n 23 rfl dX11_isEdge_22 rfl ?_
    refine zw_iload_n 24 rfl dX11_isEdge_23 rfl ?_
    refine zw_iload_n 25 rfl dX11_isEdge_24 rfl ?_
    refine zw_iload 27 rfl dX11_isEdge_25 rfl ?_
    refine zw_cVi4 30 rfl dX11_isEdge_27 kX11_isEdge_347 (Nat.le_of_ble_eq_true rfl) (by first | assumption | exact zm_o0 | exact zm_o _ _ _ rfl) (m_other h hx hy hw h_9) ?_
    refine zw_isub 31 rfl dX11_isEdge_30 ?_
    refine zw_istore 33 rfl dX11_isEdge_31 (Nat.le_of_ble_eq_true rfl) rfl ?_
    refine zw_iload 35 rfl dX11_isEdge_33 rfl ?_
    refine zw_iload 37 rfl dX11_isEdge_35 rfl ?_
    refine zw_icmp_ge 48 40 rfl dX11_isEdge_37 (by decide) (by omega) (by omega) (fun h_37 => ?_) (fun h_37 => ?_)
    · refine zw_iconst 49 rfl dX11_isEdge_48 ?_
      refine zw_goto 53 dX11_isEdge_49 (by decide) ?_
      exact zw_zretR dX11_isEdge_53 rfl (by omega) (by first | exact zb_t (by rw [zSt2_y hx hy h_9]; unfold zab; split <;> omega) | exact zb_f (by rw [zSt2_y hx hy h_9]; unfold zab; split <;> omega)) rfl
    · refine zw_iload 42 rfl dX11_isEdge_40 rfl ?_
      refine zw_ineg 43 rfl dX11_isEdge_42 ?_
      refine zw_iload 45 rfl dX11_isEdge_43 rfl ?_
      refine zw_icmp_lt 52 48 rfl dX11_isEdge_45 (by decide) (by omega) (by omega) (fun h_45 => ?_) (fun h_45 => ?_)
      · refine zw_iconst 53 rfl dX11_isEdge_52 ?_
        exact zw_zretR dX11_isEdge_53 rfl (by omega) (by first | exact zb_t (by rw [zSt2_y hx hy h_9]; unfold zab; split <;> omega) | exact zb_f (by rw [zSt2_y hx hy h_9]; unfold zab; split <;> omega)) rfl
      · refine zw_iconst 49 rfl dX11_isEdge_48 ?_
        refine zw_goto 53 dX11_isEdge_49 (by decide) ?_
        exact zw_zretR dX11_isEdge_53 rfl (by omega) (by first | exact zb_t (by rw [zSt2_y hx hy h_9]; unfold zab; split <;> omega) | exact zb_f (by rw [zSt2_y hx hy h_9]; unfold zab; split <;> omega)) rfl
  · refine zw_iconst 13 rfl dX11_isEdge_12 ?_
    exact zw_zretR dX11_isEdge_13 rfl (by omega) (zb_f (by rw [zSt2_n hx hy h_9]; omega)) rfl
theorem m_edgesOf {G : zG} {C : Nat} {σ τ : zSt} {p q t : Int} {P Q : zPc} (h : mPc C σ p P) (hq : (q = -1 ∧ Q = P) ∨ (0 ≤ q ∧ q ≤ 7 ∧ mPc C σ q Q ∧ Q.1 = P.1 ∧ Q.2.1 = P.2.1)) (ht : 0 ≤ t ∧ t ≤ 255) : zC G M_X11_edgesOf [.ref C, vi p, vi q, vi t] (zmS C, σ, τ) (zR (some (vi (aEdge P Q t))) (zmS C, σ, τ)) := by
  have hwh := h.wh
  have hqr : -1 ≤ q ∧ q ≤ 7 := by omega
  have hq1 : q = -1 → Q = P := fun e => by rcases hq with r | r; exact r.2; omega
  have hq2 : ¬ q = -1 → mPc C σ q Q ∧ Q.1 = P.1 ∧ Q.2.1 = P.2.1 := fun e => by rcases hq with r | r; omega; exact r.2.2
  refine zC_of 4 rfl (Nat.le_of_ble_eq_true rfl) ?_
  generalize hF : (fun (x y n : Int) => n + (if t ≤ zStR P x y ∧ t ≤ zStR Q x y then (1 : Int) else 0) + (if t ≤ zStD P x y ∧ t ≤ zStD Q x y then 1 else 0)) = F
  have hF' : ∀ x y n, F x y n = n + (if t ≤ zSt2 P x y 0 ∧ t ≤ zSt2 Q x y 0 then (1 : Int) else 0) + (if t ≤ zSt2 P x y 1 ∧ t ≤ zSt2 Q x y 1 then 1 else 0) := fun x y n => by rw [← hF]; rfl
  have hE : aEdge P Q t = zpt P.1 F 0 P.2.1.toNat 0 := by subst hF; exact zpt_e _ _ _ _
  rw [hE]
  have key : zW G M_X11_edgesOf (zR (some (vi (zpt P.1 F 0 P.2.1.toNat 0))) (zmS C, σ, τ)) 6 [some (.ref C), some (vi p), some (vi q), some (vi t), some (vi (zpt P.1 F 0 0 0)), some (vi (0 : Nat)), none, none] [] (zmS C, σ, τ) := by
    refine zrows (w := P.1.toNat) (h := P.2.1.toNat) (O := fun j => zW G M_X11_edgesOf (zR (some (vi (zpt P.1 F 0 P.2.1.toNat 0))) (zmS C, σ, τ)) 6 [some (.ref C), some (vi p), some (vi q), some (vi t), some (vi (zpt P.1 F 0 j 0)), some (vi j), none, none] [] (zmS C, σ, τ)) (N := fun j i => zW G M_X11_edgesOf (zR (some (vi (zpt P.1 F 0 P.2.1.toNat 0))) (zmS C, σ, τ)) 19 [some (.ref C), some (vi p), some (vi q), some (vi t), some (vi (zpt P.1 F 0 j i)), some (vi j), some (vi i), none] [] (zmS C, σ, τ)) ?_ ?_ ?_ ?_
    · refine zw_iload 8 rfl dX11_edgesOf_6 rfl ?_
      refine zw_aload_n 9 rfl dX11_edgesOf_8 rfl ?_
      refine zw_iload_n 10 rfl dX11_edgesOf_9 rfl ?_
      refine zw_cVi1 13 rfl dX11_edgesOf_10 kX11_edgesOf_176 (Nat.le_of_ble_eq_true rfl) (by first | assumption | exact zm_o0 | exact zm_o _ _ _ rfl) (m_highP h) ?_
      refine zw_icmp_ge 101 16 rfl dX11_edgesOf_13 (by decide) (by omega) (by omega) (fun h_13 => ?_) (fun h_13 => ?_)
      · refine zw_iload 103 rfl dX11_edgesOf_101 rfl ?_
        exact zw_iretR dX11_edgesOf_103 rfl rfl rfl
      · omega
    · intro j hj hN
      refine zw_iload 8 rfl dX11_edgesOf_6 rfl ?_
      refine zw_aload_n 9 rfl dX11_edgesOf_8 rfl ?_
      refine zw_iload_n 10 rfl dX11_edgesOf_9 rfl ?_
      refine zw_cVi1 13 rfl dX11_edgesOf_10 kX11_edgesOf_176 (Nat.le_of_ble_eq_true rfl) (by first | assumption | exact zm_o0 | exact zm_o _ _ _ rfl) (m_highP h) ?_
      refine zw_icmp_ge 101 16 rfl dX11_edgesOf_13 (by decide) (by omega) (by omega) (fun h_13 => ?_) (fun h_13 => ?_)
      · omega
      · refine zw_iconst 17 rfl dX11_edgesOf_16 ?_
        refine zw_istore 19 rfl dX11_edgesOf_17 (Nat.le_of_ble_eq_true rfl) rfl ?_
        exact hN
    · intro j i hj hi hN
      rw [zpt_s, hF'] at hN
      have K2 : ∀ c, c = zpt P.1 F 0 j i + (if t ≤ zSt2 P i j 0 ∧ t ≤ zSt2 Q i j 0 then (1 : Int) else 0) + (if t ≤ zSt2 P i j 1 ∧ t ≤ zSt2 Q i j 1 then 1 else 0) → zW G M_X11_edgesOf (zR (some (vi (zpt P.1 F 0 P.2.1.toNat 0))) (zmS C, σ, τ)) 32 [some (.ref C), some (vi p), some (vi q), some (vi t), some (vi c), some (vi j), some (vi i), some (vi 2)] [] (zmS C, σ, τ) := by
        intro c hc
        refine zw_iload 34 rfl dX11_edgesOf_32 rfl ?_
        refine zw_iconst 35 rfl dX11_edgesOf_34 ?_
        refine zw_icmp_ge 89 38 rfl dX11_edgesOf_35 (by decide) (by omega) (by omega) (fun h_35 => ?_) (fun h_35 => ?_)
        · refine zw_iinc 92 rfl dX11_edgesOf_89 (Nat.le_of_ble_eq_true rfl) rfl rfl ?_
          refine zw_goto 19 dX11_edgesOf_92 (by decide) ?_
          refine zw_drop 7 ?_
          rw [← hc] at hN
          exact hN
        · omega
      have K1 : ∀ c, c = zpt P.1 F 0 j i + (if t ≤ zSt2 P i j 0 ∧ t ≤ zSt2 Q i j 0 then (1 : Int) else 0) → zW G M_X11_edgesOf (zR (some (vi (zpt P.1 F 0 P.2.1.toNat 0))) (zmS C, σ, τ)) 32 [some (.ref C), some (vi p), some (vi q), some (vi t), some (vi c), some (vi j), some (vi i), some (vi 1)] [] (zmS C, σ, τ) := by
        intro c hc
        refine zw_iload 34 rfl dX11_edgesOf_32 rfl ?_
        refine zw_iconst 35 rfl dX11_edgesOf_34 ?_
        refine zw_icmp_ge 89 38 rfl dX11_edgesOf_35 (by decide) (by omega) (by omega) (fun h_35 => ?_) (fun h_35 => ?_)
        · omega
        · refine zw_iload 40 rfl dX11_edgesOf_38 rfl ?_
          refine zw_aload_n 41 rfl dX11_edgesOf_40 rfl ?_
          refine zw_iload_n 42 rfl dX11_edgesOf_41 rfl ?_
          refine zw_iload 44 rfl dX11_edgesOf_42 rfl ?_
          refine zw_iload 46 rfl dX11_edgesOf_44 rfl ?_
          refine zw_iload 48 rfl dX11_edgesOf_46 rfl ?_
          refine zw_iload_n 49 rfl dX11_edgesOf_48 rfl ?_
          refine zw_cVi5 52 rfl dX11_edgesOf_49 kX11_edgesOf_355 (Nat.le_of_ble_eq_true rfl) (by first | assumption | exact zm_o0 | exact zm_o _ _ _ rfl) (m_isEdge h (by omega) (by omega) (by omega) ht) ?_
          refine zw_if_eqB 79 55 rfl dX11_edgesOf_52 (by decide) (fun h_52 => ?_) (fun h_52 => ?_)
          · refine zw_iconst 80 rfl dX11_edgesOf_79 ?_
            refine zw_iadd 81 rfl dX11_edgesOf_80 ?_
            refine zw_istore 83 rfl dX11_edgesOf_81 (Nat.le_of_ble_eq_true rfl) rfl ?_
            refine zw_iinc 86 rfl dX11_edgesOf_83 (Nat.le_of_ble_eq_true rfl) rfl rfl ?_
            refine zw_goto 32 dX11_edgesOf_86 (by decide) ?_
            refine K2 _ ?_
            rw [hc]
            first
            | (rw [if_pos (show t ≤ zSt2 P i j 1 ∧ t ≤ zSt2 Q i j 1 from ⟨h_52, h_72⟩)]; done)
            | (rw [if_pos (show t ≤ zSt2 P i j 1 ∧ t ≤ zSt2 Q i j 1 from ⟨h_52, by rw [hq1 h_57]; exact h_52⟩)]; done)
            | (rw [if_neg (show ¬ (t ≤ zSt2 P i j 1 ∧ t ≤ zSt2 Q i j 1) from fun q => h_52 q.1)]; done)
            | (rw [if_neg (show ¬ (t ≤ zSt2 P i j 1 ∧ t ≤ zSt2 Q i j 1) from fun q => h_72 q.2)]; done)
          · refine zw_iload_n 56 rfl dX11_edgesOf_55 rfl ?_
            refine zw_iconst 57 rfl dX11_edgesOf_56 ?_
            refine zw_icmp_eq 75 60 rfl dX11_edgesOf_57 (by decide) (by omega) (by omega) (fun h_57 => ?_) (fun h_57 => ?_)
            · refine zw_iconst 76 rfl dX11_edgesOf_75 ?_
              refine zw_goto 80 dX11_edgesOf_76 (by decide) ?_
              refine zw_iadd 81 rfl dX11_edgesOf_80 ?_
              refine zw_istore 83 rfl dX11_edgesOf_81 (Nat.le_of_ble_eq_true rfl) rfl ?_
              refine zw_iinc 86 rfl dX11_edgesOf_83 (Nat.le_of_ble_eq_true rfl) rfl rfl ?_
              refine zw_goto 32 dX11_edgesOf_86 (by decide) ?_
              refine K2 _ ?_
              rw [hc]
              first
              | (rw [if_pos (show t ≤ zSt2 P i j 1 ∧ t ≤ zSt2 Q i j 1 from ⟨h_52, h_72⟩)]; done)
              | (rw [if_pos (show t ≤ zSt2 P i j 1 ∧ t ≤ zSt2 Q i j 1 from ⟨h_52, by rw [hq1 h_57]; exact h_52⟩)]; done)
              | (rw [if_neg (show ¬ (t ≤ zSt2 P i j 1 ∧ t ≤ zSt2 Q i j 1) from fun q => h_52 q.1)]; done)
              | (rw [if_neg (show ¬ (t ≤ zSt2 P i j 1 ∧ t ≤ zSt2 Q i j 1) from fun q => h_72 q.2)]; done)
            · refine zw_aload_n 61 rfl dX11_edgesOf_60 rfl ?_
              refine zw_iload_n 62 rfl dX11_edgesOf_61 rfl ?_
              refine zw_iload 64 rfl dX11_edgesOf_62 rfl ?_
              refine zw_iload 66 rfl dX11_edgesOf_64 rfl ?_
              refine zw_iload 68 rfl dX11_edgesOf_66 rfl ?_
              refine zw_iload_n 69 rfl dX11_edgesOf_68 rfl ?_
              refine zw_cVi5 72 rfl dX11_edgesOf_69 kX11_edgesOf_355 (Nat.le_of_ble_eq_true rfl) (by first | assumption | exact zm_o0 | exact zm_o _ _ _ rfl) (m_isEdge (hq2 h_57).1 (by have := hq2 h_57; omega) (by have := hq2 h_57; omega) (by omega) ht) ?_
              refine zw_if_eqB 79 75 rfl dX11_edgesOf_72 (by decide) (fun h_72 => ?_) (fun h_72 => ?_)
              · refine zw_iconst 80 rfl dX11_edgesOf_79 ?_
                refine zw_iadd 81 rfl dX11_edgesOf_80 ?_
                refine zw_istore 83 rfl dX11_edgesOf_81 (Nat.le_of_ble_eq_true rfl) rfl ?_
                refine zw_iinc 86 rfl dX11_edgesOf_83 (Nat.le_of_ble_eq_true rfl) rfl rfl ?_
                refine zw_goto 32 dX11_edgesOf_86 (by decide) ?_
                refine K2 _ ?_
                rw [hc]
                first
                | (rw [if_pos (show t ≤ zSt2 P i j 1 ∧ t ≤ zSt2 Q i j 1 from ⟨h_52, h_72⟩)]; done)
                | (rw [if_pos (show t ≤ zSt2 P i j 1 ∧ t ≤ zSt2 Q i j 1 from ⟨h_52, by rw [hq1 h_57]; exact h_52⟩)]; done)
                | (rw [if_neg (show ¬ (t ≤ zSt2 P i j 1 ∧ t ≤ zSt2 Q i j 1) from fun q => h_52 q.1)]; done)
                | (rw [if_neg (show ¬ (t ≤ zSt2 P i j 1 ∧ t ≤ zSt2 Q i j 1) from fun q => h_72 q.2)]; done)
              · refine zw_iconst 76 rfl dX11_edgesOf_75 ?_
                refine zw_goto 80 dX11_edgesOf_76 (by decide) ?_
                refine zw_iadd 81 rfl dX11_edgesOf_80 ?_
                refine zw_istore 83 rfl dX11_edgesOf_81 (Nat.le_of_ble_eq_true rfl) rfl ?_
                refine zw_iinc 86 rfl dX11_edgesOf_83 (Nat.le_of_ble_eq_true rfl) rfl rfl ?_
                refine zw_goto 32 dX11_edgesOf_86 (by decide) ?_
                refine K2 _ ?_
                rw [hc]
                first
                | (rw [if_pos (show t ≤ zSt2 P i j 1 ∧ t ≤ zSt2 Q i j 1 from ⟨h_52, h_72⟩)]; done)
                | (rw [if_pos (show t ≤ zSt2 P i j 1 ∧ t ≤ zSt2 Q i j 1 from ⟨h_52, by rw [hq1 h_57]; exact h_52⟩)]; done)
                | (rw [if_neg (show ¬ (t ≤ zSt2 P i j 1 ∧ t ≤ zSt2 Q i j 1) from fun q => h_52 q.1)]; done)
                | (rw [if_neg (show ¬ (t ≤ zSt2 P i j 1 ∧ t ≤ zSt2 Q i j 1) from fun q => h_72 q.2)]; done)
      have K0 : zW G M_X11_edgesOf (zR (some (vi (zpt P.1 F 0 P.2.1.toNat 0))) (zmS C, σ, τ)) 32 [some (.ref C), some (vi p), some (vi q), some (vi t), some (vi (zpt P.1 F 0 j i)), some (vi j), some (vi i), some (vi 0)] [] (zmS C, σ, τ) := by
        refine zw_iload 34 rfl dX11_edgesOf_32 rfl ?_
        refine zw_iconst 35 rfl dX11_edgesOf_34 ?_
        refine zw_icmp_ge 89 38 rfl dX11_edgesOf_35 (by decide) (by omega) (by omega) (fun h_35 => ?_) (fun h_35 => ?_)
        · omega
        · refine zw_iload 40 rfl dX11_edgesOf_38 rfl ?_
          refine zw_aload_n 41 rfl dX11_edgesOf_40 rfl ?_
          refine zw_iload_n 42 rfl dX11_edgesOf_41 rfl ?_
          refine zw_iload 44 rfl dX11_edgesOf_42 rfl ?_
          refine zw_iload 46 rfl dX11_edgesOf_44 rfl ?_
          refine zw_iload 48 rfl dX11_edgesOf_46 rfl ?_
          refine zw_iload_n 49 rfl dX11_edgesOf_48 rfl ?_
          refine zw_cVi5 52 rfl dX11_edgesOf_49 kX11_edgesOf_355 (Nat.le_of_ble_eq_true rfl) (by first | assumption | exact zm_o0 | exact zm_o _ _ _ rfl) (m_isEdge h (by omega) (by omega) (by omega) ht) ?_
          refine zw_if_eqB 79 55 rfl dX11_edgesOf_52 (by decide) (fun h_52 => ?_) (fun h_52 => ?_)
          · refine zw_iconst 80 rfl dX11_edgesOf_79 ?_
            refine zw_iadd 81 rfl dX11_edgesOf_80 ?_
            refine zw_istore 83 rfl dX11_edgesOf_81 (Nat.le_of_ble_eq_true rfl) rfl ?_
            refine zw_iinc 86 rfl dX11_edgesOf_83 (Nat.le_of_ble_eq_true rfl) rfl rfl ?_
            refine zw_goto 32 dX11_edgesOf_86 (by decide) ?_
            refine K1 _ ?_
            first
            | (rw [if_pos (show t ≤ zSt2 P i j 0 ∧ t ≤ zSt2 Q i j 0 from ⟨h_52, h_72⟩)]; done)
            | (rw [if_pos (show t ≤ zSt2 P i j 0 ∧ t ≤ zSt2 Q i j 0 from ⟨h_52, by rw [hq1 h_57]; exact h_52⟩)]; done)
            | (rw [if_neg (show ¬ (t ≤ zSt2 P i j 0 ∧ t ≤ zSt2 Q i j 0) from fun q => h_52 q.1)]; done)
            | (rw [if_neg (show ¬ (t ≤ zSt2 P i j 0 ∧ t ≤ zSt2 Q i j 0) from fun q => h_72 q.2)]; done)
          · refine zw_iload_n 56 rfl dX11_edgesOf_55 rfl ?_
            refine zw_iconst 57 rfl dX11_edgesOf_56 ?_
            refine zw_icmp_eq 75 60 rfl dX11_edgesOf_57 (by decide) (by omega) (by omega) (fun h_57 => ?_) (fun h_57 => ?_)
            · refine zw_iconst 76 rfl dX11_edgesOf_75 ?_
              refine zw_goto 80 dX11_edgesOf_76 (by decide) ?_
              refine zw_iadd 81 rfl dX11_edgesOf_80 ?_
              refine zw_istore 83 rfl dX11_edgesOf_81 (Nat.le_of_ble_eq_true rfl) rfl ?_
              refine zw_iinc 86 rfl dX11_edgesOf_83 (Nat.le_of_ble_eq_true rfl) rfl rfl ?_
              refine zw_goto 32 dX11_edgesOf_86 (by decide) ?_
              refine K1 _ ?_
              first
              | (rw [if_pos (show t ≤ zSt2 P i j 0 ∧ t ≤ zSt2 Q i j 0 from ⟨h_52, h_72⟩)]; done)
              | (rw [if_pos (show t ≤ zSt2 P i j 0 ∧ t ≤ zSt2 Q i j 0 from ⟨h_52, by rw [hq1 h_57]; exact h_52⟩)]; done)
              | (rw [if_neg (show ¬ (t ≤ zSt2 P i j 0 ∧ t ≤ zSt2 Q i j 0) from fun q => h_52 q.1)]; done)
              | (rw [if_neg (show ¬ (t ≤ zSt2 P i j 0 ∧ t ≤ zSt2 Q i j 0) from fun q => h_72 q.2)]; done)
            · refine zw_aload_n 61 rfl dX11_edgesOf_60 rfl ?_
              refine zw_iload_n 62 rfl dX11_edgesOf_61 rfl ?_
              refine zw_iload 64 rfl dX11_edgesOf_62 rfl ?_
              refine zw_iload 66 rfl dX11_edgesOf_64 rfl ?_
              refine zw_iload 68 rfl dX11_edgesOf_66 rfl ?_
              refine zw_iload_n 69 rfl dX11_edgesOf_68 rfl ?_
              refine zw_cVi5 72 rfl dX11_edgesOf_69 kX11_edgesOf_355 (Nat.le_of_ble_eq_true rfl) (by first | assumption | exact zm_o0 | exact zm_o _ _ _ rfl) (m_isEdge (hq2 h_57).1 (by have := hq2 h_57; omega) (by have := hq2 h_57; omega) (by omega) ht) ?_
              refine zw_if_eqB 79 75 rfl dX11_edgesOf_72 (by decide) (fun h_72 => ?_) (fun h_72 => ?_)
              · refine zw_iconst 80 rfl dX11_edgesOf_79 ?_
                refine zw_iadd 81 rfl dX11_edgesOf_80 ?_
                refine zw_istore 83 rfl dX11_edgesOf_81 (Nat.le_of_ble_eq_true rfl) rfl ?_
                refine zw_iinc 86 rfl dX11_edgesOf_83 (Nat.le_of_ble_eq_true rfl) rfl rfl ?_
                refine zw_goto 32 dX11_edgesOf_86 (by decide) ?_
                refine K1 _ ?_
                first
                | (rw [if_pos (show t ≤ zSt2 P i j 0 ∧ t ≤ zSt2 Q i j 0 from ⟨h_52, h_72⟩)]; done)
                | (rw [if_pos (show t ≤ zSt2 P i j 0 ∧ t ≤ zSt2 Q i j 0 from ⟨h_52, by rw [hq1 h_57]; exact h_52⟩)]; done)
                | (rw [if_neg (show ¬ (t ≤ zSt2 P i j 0 ∧ t ≤ zSt2 Q i j 0) from fun q => h_52 q.1)]; done)
                | (rw [if_neg (show ¬ (t ≤ zSt2 P i j 0 ∧ t ≤ zSt2 Q i j 0) from fun q => h_72 q.2)]; done)
              · refine zw_iconst 76 rfl dX11_edgesOf_75 ?_
                refine zw_goto 80 dX11_edgesOf_76 (by decide) ?_
                refine zw_iadd 81 rfl dX11_edgesOf_80 ?_
                refine zw_istore 83 rfl dX11_edgesOf_81 (Nat.le_of_ble_eq_true rfl) rfl ?_
                refine zw_iinc 86 rfl dX11_edgesOf_83 (Nat.le_of_ble_eq_true rfl) rfl rfl ?_
                refine zw_goto 32 dX11_edgesOf_86 (by decide) ?_
                refine K1 _ ?_
                first
                | (rw [if_pos (show t ≤ zSt2 P i j 0 ∧ t ≤ zSt2 Q i j 0 from ⟨h_52, h_72⟩)]; done)
                | (rw [if_pos (show t ≤ zSt2 P i j 0 ∧ t ≤ zSt2 Q i j 0 from ⟨h_52, by rw [hq1 h_57]; exact h_52⟩)]; done)
                | (rw [if_neg (show ¬ (t ≤ zSt2 P i j 0 ∧ t ≤ zSt2 Q i j 0) from fun q => h_52 q.1)]; done)
                | (rw [if_neg (show ¬ (t ≤ zSt2 P i j 0 ∧ t ≤ zSt2 Q i j 0) from fun q => h_72 q.2)]; done)
      refine zw_iload 21 rfl dX11_edgesOf_19 rfl ?_
      refine zw_aload_n 22 rfl dX11_edgesOf_21 rfl ?_
      refine zw_iload_n 23 rfl dX11_edgesOf_22 rfl ?_
      refine zw_cVi1 26 rfl dX11_edgesOf_23 kX11_edgesOf_170 (Nat.le_of_ble_eq_true rfl) (by first | assumption | exact zm_o0 | exact zm_o _ _ _ rfl) (m_wideP h) ?_
      refine zw_icmp_ge 95 29 rfl dX11_edgesOf_26 (by decide) (by omega) (by omega) (fun h_26 => ?_) (fun h_26 => ?_)
      · omega
      · refine zw_iconst 30 rfl dX11_edgesOf_29 ?_
        refine zw_istore 32 rfl dX11_edgesOf_30 (Nat.le_of_ble_eq_true rfl) rfl ?_
        exact K0
    · intro j hj hO
      refine zw_iload 21 rfl dX11_edgesOf_19 rfl ?_
      refine zw_aload_n 22 rfl dX11_edgesOf_21 rfl ?_
      refine zw_iload_n 23 rfl dX11_edgesOf_22 rfl ?_
      refine zw_cVi1 26 rfl dX11_edgesOf_23 kX11_edgesOf_170 (Nat.le_of_ble_eq_true rfl) (by first | assumption | exact zm_o0 | exact zm_o _ _ _ rfl) (m_wideP h) ?_
      refine zw_icmp_ge 95 29 rfl dX11_edgesOf_26 (by decide) (by omega) (by omega) (fun h_26 => ?_) (fun h_26 => ?_)
      · refine zw_iinc 98 rfl dX11_edgesOf_95 (Nat.le_of_ble_eq_true rfl) rfl rfl ?_
        refine zw_goto 6 dX11_edgesOf_98 (by decide) ?_
        refine zw_drop 6 ?_
        exact hO
      · omega
  refine zw_iconst 1 rfl dX11_edgesOf_0 ?_
  refine zw_istore 3 rfl dX11_edgesOf_1 (Nat.le_of_ble_eq_true rfl) rfl ?_
  refine zw_iconst 4 rfl dX11_edgesOf_3 ?_
  refine zw_istore 6 rfl dX11_edgesOf_4 (Nat.le_of_ble_eq_true rfl) rfl ?_
  exact key
theorem Y_edges {G : zG} {C : Nat} {σ τ : zSt} {A : zA} {p t : Int} (h : zmR C σ τ A) (hp : -2147483648 ≤ p ∧ p ≤ 2147483647) (ht : -2147483648 ≤ t ∧ t ≤ 2147483647) : zC G M_X11_edges [.ref C, vi p, vi t] (zmS C, σ, τ) (mQ C (sp_edges A p t)) := by
  have hP := (mThrown (v := 0)).P h.p
  refine zC_of 0 rfl (Nat.le_of_ble_eq_true rfl) ?_
  refine zw_aload_n 1 rfl dX11_edges_0 rfl ?_
  refine zw_iconst 2 rfl dX11_edges_1 ?_
  refine zw_puti 5 rfl dX11_edges_2 fp_X11_85 (by first | assumption | exact zm_o0 | exact zm_o _ _ _ rfl) ?_
  refine zw_aload_n 6 rfl dX11_edges_5 rfl ?_
  refine zw_iload_n 7 rfl dX11_edges_6 rfl ?_
  refine zw_cVi1 10 rfl dX11_edges_7 kX11_edges_173 (Nat.le_of_ble_eq_true rfl) (by first | assumption | exact zm_o0 | exact zm_o _ _ _ rfl) (m_isPicture hP hp) ?_
  refine zw_if_neB 19 13 rfl dX11_edges_10 (by decide) (fun h_10 => ?_) (fun h_10 => ?_)
  · refine zw_iload_n 20 rfl dX11_edges_19 rfl ?_
    refine zw_iconst 21 rfl dX11_edges_20 ?_
    refine zw_sipush 24 rfl dX11_edges_21 rfl ?_
    refine zw_cSi3 27 rfl dX11_edges_24 kX11_edges_106 (Nat.le_of_ble_eq_true rfl) (m_in ht (by omega) (by omega)) ?_
    refine zw_if_eqB 44 30 rfl dX11_edges_27 (by decide) (fun h_27 => ?_) (fun h_27 => ?_)
    · refine zw_aload_n 45 rfl dX11_edges_44 rfl ?_
      refine zw_iconst 46 rfl dX11_edges_45 ?_
      refine zw_cVi1 49 rfl dX11_edges_46 kX11_edges_147 (Nat.le_of_ble_eq_true rfl) (by first | assumption | exact zm_o0 | exact zm_o _ _ _ rfl) m_refused ?_
      first | exact zw_iret (st := []) dX11_edges_49 rfl (mRead h mThrown mScT.rf (by simp only [if_pos h_10, if_neg h_27]) rfl rfl) | exact zw_iret (st := []) dX11_edges_49 rfl (mRef h mThrown mScT.rf (by simp only [if_pos h_10, if_neg h_27]) (by omega))
    · refine zw_aload_n 31 rfl dX11_edges_30 rfl ?_
      refine zw_aload_n 32 rfl dX11_edges_31 rfl ?_
      refine zw_iload_n 33 rfl dX11_edges_32 rfl ?_
      refine zw_iconst 34 rfl dX11_edges_33 ?_
      refine zw_iload_n 35 rfl dX11_edges_34 rfl ?_
      refine zw_cVi3 38 rfl dX11_edges_35 kX11_edges_359 (Nat.le_of_ble_eq_true rfl) (by first | assumption | exact zm_o0 | exact zm_o _ _ _ rfl) (m_edgesOf (hP.pc h_10) (Or.inl ⟨rfl, rfl⟩) h_27) ?_
      refine zw_cVi1 41 rfl dX11_edges_38 kX11_edges_157 (Nat.le_of_ble_eq_true rfl) (by first | assumption | exact zm_o0 | exact zm_o _ _ _ rfl) m_good ?_
      refine zw_goto 49 dX11_edges_41 (by decide) ?_
      first | exact zw_iret (st := []) dX11_edges_49 rfl (mRead h mThrown mScT.rf (by simp only [if_pos h_10, if_pos h_27]) rfl rfl) | exact zw_iret (st := []) dX11_edges_49 rfl (mRef h mThrown mScT.rf (by simp only [if_pos h_10, if_pos h_27]) (by omega))
  · refine zw_aload_n 14 rfl dX11_edges_13 rfl ?_
    refine zw_iconst 15 rfl dX11_edges_14 ?_
    refine zw_cVi1 18 rfl dX11_edges_15 kX11_edges_147 (Nat.le_of_ble_eq_true rfl) (by first | assumption | exact zm_o0 | exact zm_o _ _ _ rfl) m_refused ?_
    first | exact zw_iret (st := []) dX11_edges_18 rfl (mRead h mThrown mScT.rf (by simp only [if_neg h_10]) rfl rfl) | exact zw_iret (st := []) dX11_edges_18 rfl (mRef h mThrown mScT.rf (by simp only [if_neg h_10]) (by omega))
/-! ===== line, apart ===== -/
theorem Y_line {G : zG} {C : Nat} {σ τ : zSt} {A : zA} {p kind at' : Int} (h : zmR C σ τ A) (hp : -2147483648 ≤ p ∧ p ≤ 2147483647) (hkind : -2147483648 ≤ kind ∧ kind ≤ 2147483647) (hat : -2147483648 ≤ at' ∧ at' ≤ 2147483647) : zC G M_X11_line [.ref C, vi p, vi kind, vi at'] (zmS C, σ, τ) (mQ C (sp_line A p kind at')) := by
  have hP := (mThrown (v := 0)).P h.p
  refine zC_of 2 rfl (Nat.le_of_ble_eq_true rfl) ?_
  have key0 : aTold A p → kind = 0 → (0 ≤ at' ∧ at' < (A.1 p.toNat).2.1) → zW G M_X11_line (mQ C (sp_line A p kind at')) 61 [some (.ref C), some (vi p), some (vi kind), some (vi at'), some (vi (zfold (fun k s => s + (A.1 p.toNat).2.2 k at') 0 0)), some (vi (0 : Nat))] [] (zmS C, zu σ C 0 0, τ) := by
    intro hc hk ha
    have hq := hP.pc hc
    have hw := hq.wh
    refine zloop (n := (A.1 p.toNat).1.toNat) (L := fun n => zW G M_X11_line (mQ C (sp_line A p kind at')) 61 [some (.ref C), some (vi p), some (vi kind), some (vi at'), some (vi (zfold (fun k s => s + (A.1 p.toNat).2.2 k at') n 0)), some (vi n)] [] (zmS C, zu σ C 0 0, τ)) ?_ ?_
    · skip
      refine zw_iload 63 rfl dX11_line_61 rfl ?_
      refine zw_iload_n 64 rfl dX11_line_63 rfl ?_
      refine zw_if_ne 75 67 rfl dX11_line_64 (by decide) (by omega) (fun h_64 => ?_) (fun h_64 => ?_)
      · exact absurd hk h_64
      · refine zw_aload_n 68 rfl dX11_line_67 rfl ?_
        refine zw_iload_n 69 rfl dX11_line_68 rfl ?_
        refine zw_cVi1 72 rfl dX11_line_69 kX11_line_170 (Nat.le_of_ble_eq_true rfl) (by first | assumption | exact zm_o0 | exact zm_o _ _ _ rfl) (m_wideP hq) ?_
        refine zw_goto 80 dX11_line_72 (by decide) ?_
        refine zw_icmp_ge 117 83 rfl dX11_line_80 (by decide) (by omega) (by omega) (fun h_80 => ?_) (fun h_80 => ?_)
        · refine zw_aload_n 118 rfl dX11_line_117 rfl ?_
          refine zw_iload 120 rfl dX11_line_118 rfl ?_
          refine zw_cVi1 123 rfl dX11_line_120 kX11_line_157 (Nat.le_of_ble_eq_true rfl) (by first | assumption | exact zm_o0 | exact zm_o _ _ _ rfl) m_good ?_
          refine zw_iret (st := []) dX11_line_123 rfl (mRead h mThrown mScT.rf ?_ ?_ rfl)
          · rw [if_pos hk, if_pos (show aDot A p 0 at' from ⟨hc, by omega, ha⟩)]
          · show _ = aLine (A.1 p.toNat) kind at'
            unfold aLine
            rw [if_pos hk]
        · omega
    · intro n hn ih
      refine zw_iload 63 rfl dX11_line_61 rfl ?_
      refine zw_iload_n 64 rfl dX11_line_63 rfl ?_
      refine zw_if_ne 75 67 rfl dX11_line_64 (by decide) (by omega) (fun h_64 => ?_) (fun h_64 => ?_)
      · exact absurd hk h_64
      · refine zw_aload_n 68 rfl dX11_line_67 rfl ?_
        refine zw_iload_n 69 rfl dX11_line_68 rfl ?_
        refine zw_cVi1 72 rfl dX11_line_69 kX11_line_170 (Nat.le_of_ble_eq_true rfl) (by first | assumption | exact zm_o0 | exact zm_o _ _ _ rfl) (m_wideP hq) ?_
        refine zw_goto 80 dX11_line_72 (by decide) ?_
        refine zw_icmp_ge 117 83 rfl dX11_line_80 (by decide) (by omega) (by omega) (fun h_80 => ?_) (fun h_80 => ?_)
        · omega
        · refine zw_iload 85 rfl dX11_line_83 rfl ?_
          refine zw_iload_n 86 rfl dX11_line_85 rfl ?_
          refine zw_if_ne 100 89 rfl dX11_line_86 (by decide) (by omega) (fun h_86 => ?_) (fun h_86 => ?_)
          · exact absurd hk h_86
          · refine zw_aload_n 90 rfl dX11_line_89 rfl ?_
            refine zw_iload_n 91 rfl dX11_line_90 rfl ?_
            refine zw_iload 93 rfl dX11_line_91 rfl ?_
            refine zw_iload_n 94 rfl dX11_line_93 rfl ?_
            refine zw_cVi3 97 rfl dX11_line_94 kX11_line_182 (Nat.le_of_ble_eq_true rfl) (by first | assumption | exact zm_o0 | exact zm_o _ _ _ rfl) (m_dotP hq (by omega) (by omega)) ?_
            refine zw_goto 108 dX11_line_97 (by decide) ?_
            refine zw_iadd 109 rfl dX11_line_108 ?_
            refine zw_istore 111 rfl dX11_line_109 (Nat.le_of_ble_eq_true rfl) rfl ?_
            refine zw_iinc 114 rfl dX11_line_111 (Nat.le_of_ble_eq_true rfl) rfl rfl ?_
            refine zw_goto 61 dX11_line_114 (by decide) ?_
            exact ih
  have key1 : aTold A p → kind = 1 → (0 ≤ at' ∧ at' < (A.1 p.toNat).1) → zW G M_X11_line (mQ C (sp_line A p kind at')) 61 [some (.ref C), some (vi p), some (vi kind), some (vi at'), some (vi (zfold (fun k s => s + (A.1 p.toNat).2.2 at' k) 0 0)), some (vi (0 : Nat))] [] (zmS C, zu σ C 0 0, τ) := by
    intro hc hk ha
    have hq := hP.pc hc
    have hw := hq.wh
    refine zloop (n := (A.1 p.toNat).2.1.toNat) (L := fun n => zW G M_X11_line (mQ C (sp_line A p kind at')) 61 [some (.ref C), some (vi p), some (vi kind), some (vi at'), some (vi (zfold (fun k s => s + (A.1 p.toNat).2.2 at' k) n 0)), some (vi n)] [] (zmS C, zu σ C 0 0, τ)) ?_ ?_
    · skip
      refine zw_iload 63 rfl dX11_line_61 rfl ?_
      refine zw_iload_n 64 rfl dX11_line_63 rfl ?_
      refine zw_if_ne 75 67 rfl dX11_line_64 (by decide) (by omega) (fun h_64 => ?_) (fun h_64 => ?_)
      · refine zw_aload_n 76 rfl dX11_line_75 rfl ?_
        refine zw_iload_n 77 rfl dX11_line_76 rfl ?_
        refine zw_cVi1 80 rfl dX11_line_77 kX11_line_176 (Nat.le_of_ble_eq_true rfl) (by first | assumption | exact zm_o0 | exact zm_o _ _ _ rfl) (m_highP hq) ?_
        refine zw_icmp_ge 117 83 rfl dX11_line_80 (by decide) (by omega) (by omega) (fun h_80 => ?_) (fun h_80 => ?_)
        · refine zw_aload_n 118 rfl dX11_line_117 rfl ?_
          refine zw_iload 120 rfl dX11_line_118 rfl ?_
          refine zw_cVi1 123 rfl dX11_line_120 kX11_line_157 (Nat.le_of_ble_eq_true rfl) (by first | assumption | exact zm_o0 | exact zm_o _ _ _ rfl) m_good ?_
          refine zw_iret (st := []) dX11_line_123 rfl (mRead h mThrown mScT.rf ?_ ?_ rfl)
          · rw [if_neg (by omega), if_pos hk, if_pos (show aDot A p at' 0 from ⟨hc, ha, by omega⟩)]
          · show _ = aLine (A.1 p.toNat) kind at'
            unfold aLine
            rw [if_neg (by omega)]
        · omega
      · omega
    · intro n hn ih
      refine zw_iload 63 rfl dX11_line_61 rfl ?_
      refine zw_iload_n 64 rfl dX11_line_63 rfl ?_
      refine zw_if_ne 75 67 rfl dX11_line_64 (by decide) (by omega) (fun h_64 => ?_) (fun h_64 => ?_)
      · refine zw_aload_n 76 rfl dX11_line_75 rfl ?_
        refine zw_iload_n 77 rfl dX11_line_76 rfl ?_
        refine zw_cVi1 80 rfl dX11_line_77 kX11_line_176 (Nat.le_of_ble_eq_true rfl) (by first | assumption | exact zm_o0 | exact zm_o _ _ _ rfl) (m_highP hq) ?_
        refine zw_icmp_ge 117 83 rfl dX11_line_80 (by decide) (by omega) (by omega) (fun h_80 => ?_) (fun h_80 => ?_)
        · omega
        · refine zw_iload 85 rfl dX11_line_83 rfl ?_
          refine zw_iload_n 86 rfl dX11_line_85 rfl ?_
          refine zw_if_ne 100 89 rfl dX11_line_86 (by decide) (by omega) (fun h_86 => ?_) (fun h_86 => ?_)
          · refine zw_aload_n 101 rfl dX11_line_100 rfl ?_
            refine zw_iload_n 102 rfl dX11_line_101 rfl ?_
            refine zw_iload_n 103 rfl dX11_line_102 rfl ?_
            refine zw_iload 105 rfl dX11_line_103 rfl ?_
            refine zw_cVi3 108 rfl dX11_line_105 kX11_line_182 (Nat.le_of_ble_eq_true rfl) (by first | assumption | exact zm_o0 | exact zm_o _ _ _ rfl) (m_dotP hq (by omega) (by omega)) ?_
            refine zw_iadd 109 rfl dX11_line_108 ?_
            refine zw_istore 111 rfl dX11_line_109 (Nat.le_of_ble_eq_true rfl) rfl ?_
            refine zw_iinc 114 rfl dX11_line_111 (Nat.le_of_ble_eq_true rfl) rfl rfl ?_
            refine zw_goto 61 dX11_line_114 (by decide) ?_
            exact ih
          · omega
      · omega
  refine zw_aload_n 1 rfl dX11_line_0 rfl ?_
  refine zw_iconst 2 rfl dX11_line_1 ?_
  refine zw_puti 5 rfl dX11_line_2 fp_X11_85 (by first | assumption | exact zm_o0 | exact zm_o _ _ _ rfl) ?_
  refine zw_aload_n 6 rfl dX11_line_5 rfl ?_
  refine zw_iload_n 7 rfl dX11_line_6 rfl ?_
  refine zw_cVi1 10 rfl dX11_line_7 kX11_line_173 (Nat.le_of_ble_eq_true rfl) (by first | assumption | exact zm_o0 | exact zm_o _ _ _ rfl) (m_isPicture hP hp) ?_
  refine zw_if_eqB 49 13 rfl dX11_line_10 (by decide) (fun h_10 => ?_) (fun h_10 => ?_)
  · refine zw_aload_n 50 rfl dX11_line_49 rfl ?_
    refine zw_iconst 51 rfl dX11_line_50 ?_
    refine zw_cVi1 54 rfl dX11_line_51 kX11_line_147 (Nat.le_of_ble_eq_true rfl) (by first | assumption | exact zm_o0 | exact zm_o _ _ _ rfl) m_refused ?_
    refine zw_iret (st := []) dX11_line_54 rfl (mRef h mThrown mScT.rf ?_ (by omega))
    by_cases k0 : kind = 0
    · rw [if_pos k0, if_neg (fun q => by first | exact h_10 q.1 | omega)]
    · rw [if_neg k0]
      by_cases k1 : kind = 1
      · rw [if_pos k1, if_neg (fun q => by first | exact h_10 q.1 | omega)]
      · rw [if_neg k1]
  · have hw := (hP.pc h_10).wh
    refine zw_iload_n 14 rfl dX11_line_13 rfl ?_
    refine zw_iconst 15 rfl dX11_line_14 ?_
    refine zw_iconst 16 rfl dX11_line_15 ?_
    refine zw_cSi3 19 rfl dX11_line_16 kX11_line_106 (Nat.le_of_ble_eq_true rfl) (m_in (by omega) (by omega) (by omega)) ?_
    refine zw_if_eqB 49 22 rfl dX11_line_19 (by decide) (fun h_19 => ?_) (fun h_19 => ?_)
    · refine zw_aload_n 50 rfl dX11_line_49 rfl ?_
      refine zw_iconst 51 rfl dX11_line_50 ?_
      refine zw_cVi1 54 rfl dX11_line_51 kX11_line_147 (Nat.le_of_ble_eq_true rfl) (by first | assumption | exact zm_o0 | exact zm_o _ _ _ rfl) m_refused ?_
      refine zw_iret (st := []) dX11_line_54 rfl (mRef h mThrown mScT.rf ?_ (by omega))
      by_cases k0 : kind = 0
      · rw [if_pos k0, if_neg (fun q => by first | exact h_10 q.1 | omega)]
      · rw [if_neg k0]
        by_cases k1 : kind = 1
        · rw [if_pos k1, if_neg (fun q => by first | exact h_10 q.1 | omega)]
        · rw [if_neg k1]
    · refine zw_iload_n 23 rfl dX11_line_22 rfl ?_
      refine zw_iconst 24 rfl dX11_line_23 ?_
      refine zw_iload_n 25 rfl dX11_line_24 rfl ?_
      refine zw_if_ne 36 28 rfl dX11_line_25 (by decide) (by omega) (fun h_25 => ?_) (fun h_25 => ?_)
      · refine zw_aload_n 37 rfl dX11_line_36 rfl ?_
        refine zw_iload_n 38 rfl dX11_line_37 rfl ?_
        refine zw_cVi1 41 rfl dX11_line_38 kX11_line_170 (Nat.le_of_ble_eq_true rfl) (by first | assumption | exact zm_o0 | exact zm_o _ _ _ rfl) (m_wideP (hP.pc h_10)) ?_
        refine zw_iconst 42 rfl dX11_line_41 ?_
        refine zw_isub 43 rfl dX11_line_42 ?_
        refine zw_cSi3 46 rfl dX11_line_43 kX11_line_106 (Nat.le_of_ble_eq_true rfl) (m_in (by omega) (by omega) (by omega)) ?_
        refine zw_if_neB 55 49 rfl dX11_line_46 (by decide) (fun h_46 => ?_) (fun h_46 => ?_)
        · refine zw_iconst 56 rfl dX11_line_55 ?_
          refine zw_istore 58 rfl dX11_line_56 (Nat.le_of_ble_eq_true rfl) rfl ?_
          refine zw_iconst 59 rfl dX11_line_58 ?_
          refine zw_istore 61 rfl dX11_line_59 (Nat.le_of_ble_eq_true rfl) rfl ?_
          first | exact key0 h_10 h_25 (by omega) | exact key1 h_10 (by omega) (by omega)
        · refine zw_aload_n 50 rfl dX11_line_49 rfl ?_
          refine zw_iconst 51 rfl dX11_line_50 ?_
          refine zw_cVi1 54 rfl dX11_line_51 kX11_line_147 (Nat.le_of_ble_eq_true rfl) (by first | assumption | exact zm_o0 | exact zm_o _ _ _ rfl) m_refused ?_
          refine zw_iret (st := []) dX11_line_54 rfl (mRef h mThrown mScT.rf ?_ (by omega))
          by_cases k0 : kind = 0
          · rw [if_pos k0, if_neg (fun q => by first | exact h_10 q.1 | omega)]
          · rw [if_neg k0]
            by_cases k1 : kind = 1
            · rw [if_pos k1, if_neg (fun q => by first | exact h_10 q.1 | omega)]
            · rw [if_neg k1]
      · refine zw_aload_n 29 rfl dX11_line_28 rfl ?_
        refine zw_iload_n 30 rfl dX11_line_29 rfl ?_
        refine zw_cVi1 33 rfl dX11_line_30 kX11_line_176 (Nat.le_of_ble_eq_true rfl) (by first | assumption | exact zm_o0 | exact zm_o _ _ _ rfl) (m_highP (hP.pc h_10)) ?_
        refine zw_goto 41 dX11_line_33 (by decide) ?_
        refine zw_iconst 42 rfl dX11_line_41 ?_
        refine zw_isub 43 rfl dX11_line_42 ?_
        refine zw_cSi3 46 rfl dX11_line_43 kX11_line_106 (Nat.le_of_ble_eq_true rfl) (m_in (by omega) (by omega) (by omega)) ?_
        refine zw_if_neB 55 49 rfl dX11_line_46 (by decide) (fun h_46 => ?_) (fun h_46 => ?_)
        · refine zw_iconst 56 rfl dX11_line_55 ?_
          refine zw_istore 58 rfl dX11_line_56 (Nat.le_of_ble_eq_true rfl) rfl ?_
          refine zw_iconst 59 rfl dX11_line_58 ?_
          refine zw_istore 61 rfl dX11_line_59 (Nat.le_of_ble_eq_true rfl) rfl ?_
          first | exact key0 h_10 h_25 (by omega) | exact key1 h_10 (by omega) (by omega)
        · refine zw_aload_n 50 rfl dX11_line_49 rfl ?_
          refine zw_iconst 51 rfl dX11_line_50 ?_
          refine zw_cVi1 54 rfl dX11_line_51 kX11_line_147 (Nat.le_of_ble_eq_true rfl) (by first | assumption | exact zm_o0 | exact zm_o _ _ _ rfl) m_refused ?_
          refine zw_iret (st := []) dX11_line_54 rfl (mRef h mThrown mScT.rf ?_ (by omega))
          by_cases k0 : kind = 0
          · rw [if_pos k0, if_neg (fun q => by first | exact h_10 q.1 | omega)]
          · rw [if_neg k0]
            by_cases k1 : kind = 1
            · rw [if_pos k1, if_neg (fun q => by first | exact h_10 q.1 | omega)]
            · rw [if_neg k1]
theorem Y_apart {G : zG} {C : Nat} {σ τ : zSt} {A : zA} {p q what : Int} (h : zmR C σ τ A) (hp : -2147483648 ≤ p ∧ p ≤ 2147483647) (hq : -2147483648 ≤ q ∧ q ≤ 2147483647) (hwhat : -2147483648 ≤ what ∧ what ≤ 2147483647) : zC G M_X11_apart [.ref C, vi p, vi q, vi what] (zmS C, σ, τ) (mQ C (sp_apart A p q what)) := by
  have hP := (mThrown (v := 0)).P h.p
  refine zC_of 6 rfl (Nat.le_of_ble_eq_true rfl) ?_
  by_cases hc : aTold A p ∧ aTold A q ∧ (0 ≤ what ∧ what ≤ 2) ∧ aLike A p q
  · obtain ⟨hc1, hc2, hc3, hc4⟩ := hc
    have hp1 := hP.pc hc1
    have hq1 := hP.pc hc2
    have hw := hp1.wh
    have hA : ∀ F K M, (fun (x y n : Int) => n + if 0 < zab ((A.1 p.toNat).2.2 x y - (A.1 q.toNat).2.2 x y) then (1 : Int) else 0) = F → (fun (x y n : Int) => n + zab ((A.1 p.toNat).2.2 x y - (A.1 q.toNat).2.2 x y)) = K → (fun (x y n : Int) => if n < zab ((A.1 p.toNat).2.2 x y - (A.1 q.toNat).2.2 x y) then zab ((A.1 p.toNat).2.2 x y - (A.1 q.toNat).2.2 x y) else n) = M → aApart (A.1 p.toNat) (A.1 q.toNat) what = if what = 0 then zpt (A.1 p.toNat).1 F 0 (A.1 p.toNat).2.1.toNat 0 else if what = 1 then zpt (A.1 p.toNat).1 K 0 (A.1 p.toNat).2.1.toNat 0 else zpt (A.1 p.toNat).1 M 0 (A.1 p.toNat).2.1.toNat 0 := by
      intro F K M e1 e2 e3
      subst e1 e2 e3
      unfold aApart
      rw [zpt_e, zpt_e, zpt_e]
    have hMr : ∀ j i : Nat, (j : Int) < (A.1 p.toNat).2.1 → (i : Int) < (A.1 p.toNat).1 → 0 ≤ zpt (A.1 p.toNat).1 (fun (x y n : Int) => if n < zab ((A.1 p.toNat).2.2 x y - (A.1 q.toNat).2.2 x y) then zab ((A.1 p.toNat).2.2 x y - (A.1 q.toNat).2.2 x y) else n) 0 j i ∧ zpt (A.1 p.toNat).1 (fun (x y n : Int) => if n < zab ((A.1 p.toNat).2.2 x y - (A.1 q.toNat).2.2 x y) then zab ((A.1 p.toNat).2.2 x y - (A.1 q.toNat).2.2 x y) else n) 0 j i ≤ 255 := fun j i hj hi => by
      have st : ∀ x y n : Int, 0 ≤ x ∧ x < (A.1 p.toNat).1 → 0 ≤ y ∧ y < (A.1 p.toNat).2.1 → 0 ≤ n ∧ n ≤ 255 → 0 ≤ (if n < zab ((A.1 p.toNat).2.2 x y - (A.1 q.toNat).2.2 x y) then zab ((A.1 p.toNat).2.2 x y - (A.1 q.toNat).2.2 x y) else n) ∧ (if n < zab ((A.1 p.toNat).2.2 x y - (A.1 q.toNat).2.2 x y) then zab ((A.1 p.toNat).2.2 x y - (A.1 q.toNat).2.2 x y) else n) ≤ 255 := fun x y n hx hy hn => by
        have d1 := hp1.d hx hy
        have d2 := hq1.d (x := x) (y := y) (by omega) (by omega)
        unfold zab
        (repeat' split) <;> omega
      unfold zpt
      exact zfold_ind (fun _ m => 0 ≤ m ∧ m ≤ 255) _ (zfold_ind (fun _ m => 0 ≤ m ∧ m ≤ 255) _ (by omega) (fun a b ha hb => zfold_ind (fun _ m => 0 ≤ m ∧ m ≤ 255) _ hb (fun c e hc he => st c a e (by omega) (by omega) he))) (fun a b ha hb => st a j b (by omega) (by omega) hb)
    generalize hF : (fun (x y n : Int) => n + if 0 < zab ((A.1 p.toNat).2.2 x y - (A.1 q.toNat).2.2 x y) then (1 : Int) else 0) = F
    generalize hK : (fun (x y n : Int) => n + zab ((A.1 p.toNat).2.2 x y - (A.1 q.toNat).2.2 x y)) = K
    generalize hM : (fun (x y n : Int) => if n < zab ((A.1 p.toNat).2.2 x y - (A.1 q.toNat).2.2 x y) then zab ((A.1 p.toNat).2.2 x y - (A.1 q.toNat).2.2 x y) else n) = M at hMr
    have hA := hA F K M hF hK hM
    have hF' : ∀ x y n, F x y n = n + if 0 < zab ((A.1 p.toNat).2.2 x y - (A.1 q.toNat).2.2 x y) then (1 : Int) else 0 := fun x y n => by rw [← hF]
    have hK' : ∀ x y n, K x y n = n + zab ((A.1 p.toNat).2.2 x y - (A.1 q.toNat).2.2 x y) := fun x y n => by rw [← hK]
    have hM' : ∀ x y n, M x y n = if n < zab ((A.1 p.toNat).2.2 x y - (A.1 q.toNat).2.2 x y) then zab ((A.1 p.toNat).2.2 x y - (A.1 q.toNat).2.2 x y) else n := fun x y n => by rw [← hM]
    have key : zW G M_X11_apart (mQ C (sp_apart A p q what)) 63 [some (.ref C), some (vi p), some (vi q), some (vi what), some (vi (zpt (A.1 p.toNat).1 F 0 0 0)), some (vi (zpt (A.1 p.toNat).1 K 0 0 0)), some (vi (zpt (A.1 p.toNat).1 M 0 0 0)), some (vi (0 : Nat)), none, none] [] (zmS C, zu σ C 0 0, τ) := by
      refine zrows (w := (A.1 p.toNat).1.toNat) (h := (A.1 p.toNat).2.1.toNat) (O := fun j => zW G M_X11_apart (mQ C (sp_apart A p q what)) 63 [some (.ref C), some (vi p), some (vi q), some (vi what), some (vi (zpt (A.1 p.toNat).1 F 0 j 0)), some (vi (zpt (A.1 p.toNat).1 K 0 j 0)), some (vi (zpt (A.1 p.toNat).1 M 0 j 0)), some (vi j), none, none] [] (zmS C, zu σ C 0 0, τ)) (N := fun j i => zW G M_X11_apart (mQ C (sp_apart A p q what)) 76 [some (.ref C), some (vi p), some (vi q), some (vi what), some (vi (zpt (A.1 p.toNat).1 F 0 j i)), some (vi (zpt (A.1 p.toNat).1 K 0 j i)), some (vi (zpt (A.1 p.toNat).1 M 0 j i)), some (vi j), some (vi i), none] [] (zmS C, zu σ C 0 0, τ)) ?_ ?_ ?_ ?_
      · refine zw_iload 65 rfl dX11_apart_63 rfl ?_
        refine zw_aload_n 66 rfl dX11_apart_65 rfl ?_
        refine zw_iload_n 67 rfl dX11_apart_66 rfl ?_
        refine zw_cVi1 70 rfl dX11_apart_67 kX11_apart_176 (Nat.le_of_ble_eq_true rfl) (by first | assumption | exact zm_o0 | exact zm_o _ _ _ rfl) (m_highP hp1) ?_
        refine zw_icmp_ge 172 73 rfl dX11_apart_70 (by decide) (by omega) (by omega) (fun h_70 => ?_) (fun h_70 => ?_)
        · refine zw_aload_n 173 rfl dX11_apart_172 rfl ?_
          refine zw_iload_n 174 rfl dX11_apart_173 rfl ?_
          refine zw_if_ne 182 177 rfl dX11_apart_174 (by decide) (by omega) (fun h_174 => ?_) (fun h_174 => ?_)
          · refine zw_iload_n 183 rfl dX11_apart_182 rfl ?_
            refine zw_iconst 184 rfl dX11_apart_183 ?_
            refine zw_icmp_ne 192 187 rfl dX11_apart_184 (by decide) (by omega) (by omega) (fun h_184 => ?_) (fun h_184 => ?_)
            · refine zw_iload 194 rfl dX11_apart_192 rfl ?_
              refine zw_cVi1 197 rfl dX11_apart_194 kX11_apart_157 (Nat.le_of_ble_eq_true rfl) (by first | assumption | exact zm_o0 | exact zm_o _ _ _ rfl) m_good ?_
              exact zw_iret (st := []) dX11_apart_197 rfl (mRead h mThrown mScT.rf (by rw [if_pos hc1, if_pos hc2, if_pos hc3, if_pos hc4]) (by show _ = aApart _ _ what; rw [hA]; first | (rw [if_pos h_174]; done) | (rw [if_neg h_174, if_pos h_184]; done) | (rw [if_neg h_174, if_neg h_184]; done)) rfl)
            · refine zw_iload 189 rfl dX11_apart_187 rfl ?_
              refine zw_goto 194 dX11_apart_189 (by decide) ?_
              refine zw_cVi1 197 rfl dX11_apart_194 kX11_apart_157 (Nat.le_of_ble_eq_true rfl) (by first | assumption | exact zm_o0 | exact zm_o _ _ _ rfl) m_good ?_
              exact zw_iret (st := []) dX11_apart_197 rfl (mRead h mThrown mScT.rf (by rw [if_pos hc1, if_pos hc2, if_pos hc3, if_pos hc4]) (by show _ = aApart _ _ what; rw [hA]; first | (rw [if_pos h_174]; done) | (rw [if_neg h_174, if_pos h_184]; done) | (rw [if_neg h_174, if_neg h_184]; done)) rfl)
          · refine zw_iload 179 rfl dX11_apart_177 rfl ?_
            refine zw_goto 194 dX11_apart_179 (by decide) ?_
            refine zw_cVi1 197 rfl dX11_apart_194 kX11_apart_157 (Nat.le_of_ble_eq_true rfl) (by first | assumption | exact zm_o0 | exact zm_o _ _ _ rfl) m_good ?_
            exact zw_iret (st := []) dX11_apart_197 rfl (mRead h mThrown mScT.rf (by rw [if_pos hc1, if_pos hc2, if_pos hc3, if_pos hc4]) (by show _ = aApart _ _ what; rw [hA]; first | (rw [if_pos h_174]; done) | (rw [if_neg h_174, if_pos h_184]; done) | (rw [if_neg h_174, if_neg h_184]; done)) rfl)
        · omega
      · intro j hj hN
        refine zw_iload 65 rfl dX11_apart_63 rfl ?_
        refine zw_aload_n 66 rfl dX11_apart_65 rfl ?_
        refine zw_iload_n 67 rfl dX11_apart_66 rfl ?_
        refine zw_cVi1 70 rfl dX11_apart_67 kX11_apart_176 (Nat.le_of_ble_eq_true rfl) (by first | assumption | exact zm_o0 | exact zm_o _ _ _ rfl) (m_highP hp1) ?_
        refine zw_icmp_ge 172 73 rfl dX11_apart_70 (by decide) (by omega) (by omega) (fun h_70 => ?_) (fun h_70 => ?_)
        · omega
        · refine zw_iconst 74 rfl dX11_apart_73 ?_
          refine zw_istore 76 rfl dX11_apart_74 (Nat.le_of_ble_eq_true rfl) rfl ?_
          exact hN
      · intro j i hj hi hN
        have d1 := hp1.d (x := i) (y := j) (by omega) (by omega)
        have d2 := hq1.d (x := i) (y := j) (by omega) (by omega)
        have d3 := hMr j i (by omega) (by omega)
        have zp : 0 ≤ (A.1 p.toNat).2.2 i j - (A.1 q.toNat).2.2 i j → zab ((A.1 p.toNat).2.2 i j - (A.1 q.toNat).2.2 i j) = (A.1 p.toNat).2.2 i j - (A.1 q.toNat).2.2 i j := fun e => if_pos e
        have zn : ¬ 0 ≤ (A.1 p.toNat).2.2 i j - (A.1 q.toNat).2.2 i j → zab ((A.1 p.toNat).2.2 i j - (A.1 q.toNat).2.2 i j) = -((A.1 p.toNat).2.2 i j - (A.1 q.toNat).2.2 i j) := fun e => if_neg e
        refine zw_iload 78 rfl dX11_apart_76 rfl ?_
        refine zw_aload_n 79 rfl dX11_apart_78 rfl ?_
        refine zw_iload_n 80 rfl dX11_apart_79 rfl ?_
        refine zw_cVi1 83 rfl dX11_apart_80 kX11_apart_170 (Nat.le_of_ble_eq_true rfl) (by first | assumption | exact zm_o0 | exact zm_o _ _ _ rfl) (m_wideP hp1) ?_
        refine zw_icmp_ge 166 86 rfl dX11_apart_83 (by decide) (by omega) (by omega) (fun h_83 => ?_) (fun h_83 => ?_)
        · omega
        · refine zw_aload_n 87 rfl dX11_apart_86 rfl ?_
          refine zw_iload_n 88 rfl dX11_apart_87 rfl ?_
          refine zw_iload 90 rfl dX11_apart_88 rfl ?_
          refine zw_iload 92 rfl dX11_apart_90 rfl ?_
          refine zw_cVi3 95 rfl dX11_apart_92 kX11_apart_182 (Nat.le_of_ble_eq_true rfl) (by first | assumption | exact zm_o0 | exact zm_o _ _ _ rfl) (m_dotP hp1 (by omega) (by omega)) ?_
          refine zw_aload_n 96 rfl dX11_apart_95 rfl ?_
          refine zw_iload_n 97 rfl dX11_apart_96 rfl ?_
          refine zw_iload 99 rfl dX11_apart_97 rfl ?_
          refine zw_iload 101 rfl dX11_apart_99 rfl ?_
          refine zw_cVi3 104 rfl dX11_apart_101 kX11_apart_182 (Nat.le_of_ble_eq_true rfl) (by first | assumption | exact zm_o0 | exact zm_o _ _ _ rfl) (m_dotP hq1 (by omega) (by omega)) ?_
          refine zw_isub 105 rfl dX11_apart_104 ?_
          refine zw_istore 107 rfl dX11_apart_105 (Nat.le_of_ble_eq_true rfl) rfl ?_
          refine zw_iload 109 rfl dX11_apart_107 rfl ?_
          refine zw_if_ge 118 112 rfl dX11_apart_109 (by decide) (by omega) (fun h_109 => ?_) (fun h_109 => ?_)
          · refine zw_iload 120 rfl dX11_apart_118 rfl ?_
            refine zw_istore 122 rfl dX11_apart_120 (Nat.le_of_ble_eq_true rfl) rfl ?_
            refine zw_iload 124 rfl dX11_apart_122 rfl ?_
            refine zw_iload 126 rfl dX11_apart_124 rfl ?_
            refine zw_if_le 133 129 rfl dX11_apart_126 (by decide) (by omega) (fun h_126 => ?_) (fun h_126 => ?_)
            · refine zw_iconst 134 rfl dX11_apart_133 ?_
              refine zw_iadd 135 rfl dX11_apart_134 ?_
              refine zw_istore 137 rfl dX11_apart_135 (Nat.le_of_ble_eq_true rfl) rfl ?_
              refine zw_iload 139 rfl dX11_apart_137 rfl ?_
              refine zw_iload 141 rfl dX11_apart_139 rfl ?_
              refine zw_iadd 142 rfl dX11_apart_141 ?_
              refine zw_istore 144 rfl dX11_apart_142 (Nat.le_of_ble_eq_true rfl) rfl ?_
              refine zw_iload 146 rfl dX11_apart_144 rfl ?_
              refine zw_iload 148 rfl dX11_apart_146 rfl ?_
              refine zw_icmp_le 156 151 rfl dX11_apart_148 (by decide) (by omega) (by omega) (fun h_148 => ?_) (fun h_148 => ?_)
              · refine zw_iload 158 rfl dX11_apart_156 rfl ?_
                refine zw_istore 160 rfl dX11_apart_158 (Nat.le_of_ble_eq_true rfl) rfl ?_
                refine zw_iinc 163 rfl dX11_apart_160 (Nat.le_of_ble_eq_true rfl) rfl rfl ?_
                refine zw_goto 76 dX11_apart_163 (by decide) ?_
                first
                | (exfalso; omega)
                | (refine zw_drop 9 ?_
                   rw [zpt_s, zpt_s, zpt_s, hF', hK', hM'] at hN
                   first | (rw [zp h_109] at hN) | (rw [zn h_109] at hN)
                   first | (rw [if_pos (by omega)] at hN) | (rw [if_neg (by omega)] at hN)
                   first | (rw [if_pos (by omega)] at hN; exact hN) | (rw [if_neg (by omega)] at hN; exact hN))
              · refine zw_iload 153 rfl dX11_apart_151 rfl ?_
                refine zw_goto 158 dX11_apart_153 (by decide) ?_
                refine zw_istore 160 rfl dX11_apart_158 (Nat.le_of_ble_eq_true rfl) rfl ?_
                refine zw_iinc 163 rfl dX11_apart_160 (Nat.le_of_ble_eq_true rfl) rfl rfl ?_
                refine zw_goto 76 dX11_apart_163 (by decide) ?_
                first
                | (exfalso; omega)
                | (refine zw_drop 9 ?_
                   rw [zpt_s, zpt_s, zpt_s, hF', hK', hM'] at hN
                   first | (rw [zp h_109] at hN) | (rw [zn h_109] at hN)
                   first | (rw [if_pos (by omega)] at hN) | (rw [if_neg (by omega)] at hN)
                   first | (rw [if_pos (by omega)] at hN; exact hN) | (rw [if_neg (by omega)] at hN; exact hN))
            · refine zw_iconst 130 rfl dX11_apart_129 ?_
              refine zw_goto 134 dX11_apart_130 (by decide) ?_
              refine zw_iadd 135 rfl dX11_apart_134 ?_
              refine zw_istore 137 rfl dX11_apart_135 (Nat.le_of_ble_eq_true rfl) rfl ?_
              refine zw_iload 139 rfl dX11_apart_137 rfl ?_
              refine zw_iload 141 rfl dX11_apart_139 rfl ?_
              refine zw_iadd 142 rfl dX11_apart_141 ?_
              refine zw_istore 144 rfl dX11_apart_142 (Nat.le_of_ble_eq_true rfl) rfl ?_
              refine zw_iload 146 rfl dX11_apart_144 rfl ?_
              refine zw_iload 148 rfl dX11_apart_146 rfl ?_
              refine zw_icmp_le 156 151 rfl dX11_apart_148 (by decide) (by omega) (by omega) (fun h_148 => ?_) (fun h_148 => ?_)
              · refine zw_iload 158 rfl dX11_apart_156 rfl ?_
                refine zw_istore 160 rfl dX11_apart_158 (Nat.le_of_ble_eq_true rfl) rfl ?_
                refine zw_iinc 163 rfl dX11_apart_160 (Nat.le_of_ble_eq_true rfl) rfl rfl ?_
                refine zw_goto 76 dX11_apart_163 (by decide) ?_
                first
                | (exfalso; omega)
                | (refine zw_drop 9 ?_
                   rw [zpt_s, zpt_s, zpt_s, hF', hK', hM'] at hN
                   first | (rw [zp h_109] at hN) | (rw [zn h_109] at hN)
                   first | (rw [if_pos (by omega)] at hN) | (rw [if_neg (by omega)] at hN)
                   first | (rw [if_pos (by omega)] at hN; exact hN) | (rw [if_neg (by omega)] at hN; exact hN))
              · refine zw_iload 153 rfl dX11_apart_151 rfl ?_
                refine zw_goto 158 dX11_apart_153 (by decide) ?_
                refine zw_istore 160 rfl dX11_apart_158 (Nat.le_of_ble_eq_true rfl) rfl ?_
                refine zw_iinc 163 rfl dX11_apart_160 (Nat.le_of_ble_eq_true rfl) rfl rfl ?_
                refine zw_goto 76 dX11_apart_163 (by decide) ?_
                first
                | (exfalso; omega)
                | (refine zw_drop 9 ?_
                   rw [zpt_s, zpt_s, zpt_s, hF', hK', hM'] at hN
                   first | (rw [zp h_109] at hN) | (rw [zn h_109] at hN)
                   first | (rw [if_pos (by omega)] at hN) | (rw [if_neg (by omega)] at hN)
                   first | (rw [if_pos (by omega)] at hN; exact hN) | (rw [if_neg (by omega)] at hN; exact hN))
          · refine zw_iload 114 rfl dX11_apart_112 rfl ?_
            refine zw_ineg 115 rfl dX11_apart_114 ?_
            refine zw_goto 120 dX11_apart_115 (by decide) ?_
            refine zw_istore 122 rfl dX11_apart_120 (Nat.le_of_ble_eq_true rfl) rfl ?_
            refine zw_iload 124 rfl dX11_apart_122 rfl ?_
            refine zw_iload 126 rfl dX11_apart_124 rfl ?_
            refine zw_if_le 133 129 rfl dX11_apart_126 (by decide) (by omega) (fun h_126 => ?_) (fun h_126 => ?_)
            · refine zw_iconst 134 rfl dX11_apart_133 ?_
              refine zw_iadd 135 rfl dX11_apart_134 ?_
              refine zw_istore 137 rfl dX11_apart_135 (Nat.le_of_ble_eq_true rfl) rfl ?_
              refine zw_iload 139 rfl dX11_apart_137 rfl ?_
              refine zw_iload 141 rfl dX11_apart_139 rfl ?_
              refine zw_iadd 142 rfl dX11_apart_141 ?_
              refine zw_istore 144 rfl dX11_apart_142 (Nat.le_of_ble_eq_true rfl) rfl ?_
              refine zw_iload 146 rfl dX11_apart_144 rfl ?_
              refine zw_iload 148 rfl dX11_apart_146 rfl ?_
              refine zw_icmp_le 156 151 rfl dX11_apart_148 (by decide) (by omega) (by omega) (fun h_148 => ?_) (fun h_148 => ?_)
              · refine zw_iload 158 rfl dX11_apart_156 rfl ?_
                refine zw_istore 160 rfl dX11_apart_158 (Nat.le_of_ble_eq_true rfl) rfl ?_
                refine zw_iinc 163 rfl dX11_apart_160 (Nat.le_of_ble_eq_true rfl) rfl rfl ?_
                refine zw_goto 76 dX11_apart_163 (by decide) ?_
                first
                | (exfalso; omega)
                | (refine zw_drop 9 ?_
                   rw [zpt_s, zpt_s, zpt_s, hF', hK', hM'] at hN
                   first | (rw [zp h_109] at hN) | (rw [zn h_109] at hN)
                   first | (rw [if_pos (by omega)] at hN) | (rw [if_neg (by omega)] at hN)
                   first | (rw [if_pos (by omega)] at hN; exact hN) | (rw [if_neg (by omega)] at hN; exact hN))
              · refine zw_iload 153 rfl dX11_apart_151 rfl ?_
                refine zw_goto 158 dX11_apart_153 (by decide) ?_
                refine zw_istore 160 rfl dX11_apart_158 (Nat.le_of_ble_eq_true rfl) rfl ?_
                refine zw_iinc 163 rfl dX11_apart_160 (Nat.le_of_ble_eq_true rfl) rfl rfl ?_
                refine zw_goto 76 dX11_apart_163 (by decide) ?_
                first
                | (exfalso; omega)
                | (refine zw_drop 9 ?_
                   rw [zpt_s, zpt_s, zpt_s, hF', hK', hM'] at hN
                   first | (rw [zp h_109] at hN) | (rw [zn h_109] at hN)
                   first | (rw [if_pos (by omega)] at hN) | (rw [if_neg (by omega)] at hN)
                   first | (rw [if_pos (by omega)] at hN; exact hN) | (rw [if_neg (by omega)] at hN; exact hN))
            · refine zw_iconst 130 rfl dX11_apart_129 ?_
              refine zw_goto 134 dX11_apart_130 (by decide) ?_
              refine zw_iadd 135 rfl dX11_apart_134 ?_
              refine zw_istore 137 rfl dX11_apart_135 (Nat.le_of_ble_eq_true rfl) rfl ?_
              refine zw_iload 139 rfl dX11_apart_137 rfl ?_
              refine zw_iload 141 rfl dX11_apart_139 rfl ?_
              refine zw_iadd 142 rfl dX11_apart_141 ?_
              refine zw_istore 144 rfl dX11_apart_142 (Nat.le_of_ble_eq_true rfl) rfl ?_
              refine zw_iload 146 rfl dX11_apart_144 rfl ?_
              refine zw_iload 148 rfl dX11_apart_146 rfl ?_
              refine zw_icmp_le 156 151 rfl dX11_apart_148 (by decide) (by omega) (by omega) (fun h_148 => ?_) (fun h_148 => ?_)
              · refine zw_iload 158 rfl dX11_apart_156 rfl ?_
                refine zw_istore 160 rfl dX11_apart_158 (Nat.le_of_ble_eq_true rfl) rfl ?_
                refine zw_iinc 163 rfl dX11_apart_160 (Nat.le_of_ble_eq_true rfl) rfl rfl ?_
                refine zw_goto 76 dX11_apart_163 (by decide) ?_
                first
                | (exfalso; omega)
                | (refine zw_drop 9 ?_
                   rw [zpt_s, zpt_s, zpt_s, hF', hK', hM'] at hN
                   first | (rw [zp h_109] at hN) | (rw [zn h_109] at hN)
                   first | (rw [if_pos (by omega)] at hN) | (rw [if_neg (by omega)] at hN)
                   first | (rw [if_pos (by omega)] at hN; exact hN) | (rw [if_neg (by omega)] at hN; exact hN))
              · refine zw_iload 153 rfl dX11_apart_151 rfl ?_
                refine zw_goto 158 dX11_apart_153 (by decide) ?_
                refine zw_istore 160 rfl dX11_apart_158 (Nat.le_of_ble_eq_true rfl) rfl ?_
                refine zw_iinc 163 rfl dX11_apart_160 (Nat.le_of_ble_eq_true rfl) rfl rfl ?_
                refine zw_goto 76 dX11_apart_163 (by decide) ?_
                first
                | (exfalso; omega)
                | (refine zw_drop 9 ?_
                   rw [zpt_s, zpt_s, zpt_s, hF', hK', hM'] at hN
                   first | (rw [zp h_109] at hN) | (rw [zn h_109] at hN)
                   first | (rw [if_pos (by omega)] at hN) | (rw [if_neg (by omega)] at hN)
                   first | (rw [if_pos (by omega)] at hN; exact hN) | (rw [if_neg (by omega)] at hN; exact hN))
      · intro j hj hO
        refine zw_iload 78 rfl dX11_apart_76 rfl ?_
        refine zw_aload_n 79 rfl dX11_apart_78 rfl ?_
        refine zw_iload_n 80 rfl dX11_apart_79 rfl ?_
        refine zw_cVi1 83 rfl dX11_apart_80 kX11_apart_170 (Nat.le_of_ble_eq_true rfl) (by first | assumption | exact zm_o0 | exact zm_o _ _ _ rfl) (m_wideP hp1) ?_
        refine zw_icmp_ge 166 86 rfl dX11_apart_83 (by decide) (by omega) (by omega) (fun h_83 => ?_) (fun h_83 => ?_)
        · refine zw_iinc 169 rfl dX11_apart_166 (Nat.le_of_ble_eq_true rfl) rfl rfl ?_
          refine zw_goto 63 dX11_apart_169 (by decide) ?_
          refine zw_drop 8 ?_
          exact hO
        · omega
    refine zw_aload_n 1 rfl dX11_apart_0 rfl ?_
    refine zw_iconst 2 rfl dX11_apart_1 ?_
    refine zw_puti 5 rfl dX11_apart_2 fp_X11_85 (by first | assumption | exact zm_o0 | exact zm_o _ _ _ rfl) ?_
    refine zw_aload_n 6 rfl dX11_apart_5 rfl ?_
    refine zw_iload_n 7 rfl dX11_apart_6 rfl ?_
    refine zw_cVi1 10 rfl dX11_apart_7 kX11_apart_173 (Nat.le_of_ble_eq_true rfl) (by first | assumption | exact zm_o0 | exact zm_o _ _ _ rfl) (m_isPicture hP hp) ?_
    refine zw_if_eqB 30 13 rfl dX11_apart_10 (by decide) (fun h_10 => ?_) (fun h_10 => ?_)
    · first | exact absurd hc1 h_10 | exact absurd hc2 h_18 | exact absurd hc3 h_27
    · refine zw_aload_n 14 rfl dX11_apart_13 rfl ?_
      refine zw_iload_n 15 rfl dX11_apart_14 rfl ?_
      refine zw_cVi1 18 rfl dX11_apart_15 kX11_apart_173 (Nat.le_of_ble_eq_true rfl) (by first | assumption | exact zm_o0 | exact zm_o _ _ _ rfl) (m_isPicture hP hq) ?_
      refine zw_if_eqB 30 21 rfl dX11_apart_18 (by decide) (fun h_18 => ?_) (fun h_18 => ?_)
      · first | exact absurd hc1 h_10 | exact absurd hc2 h_18 | exact absurd hc3 h_27
      · refine zw_iload_n 22 rfl dX11_apart_21 rfl ?_
        refine zw_iconst 23 rfl dX11_apart_22 ?_
        refine zw_iconst 24 rfl dX11_apart_23 ?_
        refine zw_cSi3 27 rfl dX11_apart_24 kX11_apart_106 (Nat.le_of_ble_eq_true rfl) (m_in (by omega) (by omega) (by omega)) ?_
        refine zw_if_neB 36 30 rfl dX11_apart_27 (by decide) (fun h_27 => ?_) (fun h_27 => ?_)
        · refine zw_aload_n 37 rfl dX11_apart_36 rfl ?_
          refine zw_iload_n 38 rfl dX11_apart_37 rfl ?_
          refine zw_iload_n 39 rfl dX11_apart_38 rfl ?_
          refine zw_cVi2 42 rfl dX11_apart_39 kX11_apart_267 (Nat.le_of_ble_eq_true rfl) (by first | assumption | exact zm_o0 | exact zm_o _ _ _ rfl) (m_areAsWide hp1 hq1) ?_
          refine zw_if_neB 51 45 rfl dX11_apart_42 (by decide) (fun h_42 => ?_) (fun h_42 => ?_)
          · refine zw_iconst 52 rfl dX11_apart_51 ?_
            refine zw_istore 54 rfl dX11_apart_52 (Nat.le_of_ble_eq_true rfl) rfl ?_
            refine zw_iconst 55 rfl dX11_apart_54 ?_
            refine zw_istore 57 rfl dX11_apart_55 (Nat.le_of_ble_eq_true rfl) rfl ?_
            refine zw_iconst 58 rfl dX11_apart_57 ?_
            refine zw_istore 60 rfl dX11_apart_58 (Nat.le_of_ble_eq_true rfl) rfl ?_
            refine zw_iconst 61 rfl dX11_apart_60 ?_
            refine zw_istore 63 rfl dX11_apart_61 (Nat.le_of_ble_eq_true rfl) rfl ?_
            exact key
          · exact absurd hc4 h_42
        · first | exact absurd hc1 h_10 | exact absurd hc2 h_18 | exact absurd hc3 h_27
  refine zw_aload_n 1 rfl dX11_apart_0 rfl ?_
  refine zw_iconst 2 rfl dX11_apart_1 ?_
  refine zw_puti 5 rfl dX11_apart_2 fp_X11_85 (by first | assumption | exact zm_o0 | exact zm_o _ _ _ rfl) ?_
  refine zw_aload_n 6 rfl dX11_apart_5 rfl ?_
  refine zw_iload_n 7 rfl dX11_apart_6 rfl ?_
  refine zw_cVi1 10 rfl dX11_apart_7 kX11_apart_173 (Nat.le_of_ble_eq_true rfl) (by first | assumption | exact zm_o0 | exact zm_o _ _ _ rfl) (m_isPicture hP hp) ?_
  refine zw_if_eqB 30 13 rfl dX11_apart_10 (by decide) (fun h_10 => ?_) (fun h_10 => ?_)
  · refine zw_aload_n 31 rfl dX11_apart_30 rfl ?_
    refine zw_iconst 32 rfl dX11_apart_31 ?_
    refine zw_cVi1 35 rfl dX11_apart_32 kX11_apart_147 (Nat.le_of_ble_eq_true rfl) (by first | assumption | exact zm_o0 | exact zm_o _ _ _ rfl) m_refused ?_
    exact zw_iret (st := []) dX11_apart_35 rfl (mRef h mThrown mScT.rf (by simp only [if_neg h_10, if_true, if_false]) (by omega))
  · refine zw_aload_n 14 rfl dX11_apart_13 rfl ?_
    refine zw_iload_n 15 rfl dX11_apart_14 rfl ?_
    refine zw_cVi1 18 rfl dX11_apart_15 kX11_apart_173 (Nat.le_of_ble_eq_true rfl) (by first | assumption | exact zm_o0 | exact zm_o _ _ _ rfl) (m_isPicture hP hq) ?_
    refine zw_if_eqB 30 21 rfl dX11_apart_18 (by decide) (fun h_18 => ?_) (fun h_18 => ?_)
    · refine zw_aload_n 31 rfl dX11_apart_30 rfl ?_
      refine zw_iconst 32 rfl dX11_apart_31 ?_
      refine zw_cVi1 35 rfl dX11_apart_32 kX11_apart_147 (Nat.le_of_ble_eq_true rfl) (by first | assumption | exact zm_o0 | exact zm_o _ _ _ rfl) m_refused ?_
      exact zw_iret (st := []) dX11_apart_35 rfl (mRef h mThrown mScT.rf (by simp only [if_pos h_10, if_neg h_18, if_true, if_false]) (by omega))
    · refine zw_iload_n 22 rfl dX11_apart_21 rfl ?_
      refine zw_iconst 23 rfl dX11_apart_22 ?_
      refine zw_iconst 24 rfl dX11_apart_23 ?_
      refine zw_cSi3 27 rfl dX11_apart_24 kX11_apart_106 (Nat.le_of_ble_eq_true rfl) (m_in (by omega) (by omega) (by omega)) ?_
      refine zw_if_neB 36 30 rfl dX11_apart_27 (by decide) (fun h_27 => ?_) (fun h_27 => ?_)
      · refine zw_aload_n 37 rfl dX11_apart_36 rfl ?_
        refine zw_iload_n 38 rfl dX11_apart_37 rfl ?_
        refine zw_iload_n 39 rfl dX11_apart_38 rfl ?_
        refine zw_cVi2 42 rfl dX11_apart_39 kX11_apart_267 (Nat.le_of_ble_eq_true rfl) (by first | assumption | exact zm_o0 | exact zm_o _ _ _ rfl) (m_areAsWide (hP.pc h_10) (hP.pc h_18)) ?_
        refine zw_if_neB 51 45 rfl dX11_apart_42 (by decide) (fun h_42 => ?_) (fun h_42 => ?_)
        · exact absurd ⟨h_10, h_18, h_27, h_42⟩ hc
        · refine zw_aload_n 46 rfl dX11_apart_45 rfl ?_
          refine zw_iconst 47 rfl dX11_apart_46 ?_
          refine zw_cVi1 50 rfl dX11_apart_47 kX11_apart_147 (Nat.le_of_ble_eq_true rfl) (by first | assumption | exact zm_o0 | exact zm_o _ _ _ rfl) m_refused ?_
          exact zw_iret (st := []) dX11_apart_50 rfl (mRef h mThrown mScT.rf (by simp only [if_pos h_10, if_pos h_18, if_pos h_27, if_neg h_42, if_true, if_false]) (by omega))
      · refine zw_aload_n 31 rfl dX11_apart_30 rfl ?_
        refine zw_iconst 32 rfl dX11_apart_31 ?_
        refine zw_cVi1 35 rfl dX11_apart_32 kX11_apart_147 (Nat.le_of_ble_eq_true rfl) (by first | assumption | exact zm_o0 | exact zm_o _ _ _ rfl) m_refused ?_
        exact zw_iret (st := []) dX11_apart_35 rfl (mRef h mThrown mScT.rf (by simp only [if_pos h_10, if_pos h_18, if_neg h_27, if_true, if_false]) (by omega))
