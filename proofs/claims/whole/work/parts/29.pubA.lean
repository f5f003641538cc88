/-! ===== a picture made dot by dot in the work picture ===== -/
def zfil (w : Int) (F : Int → Int → Int) (n : Int) (g : Nat → Int) : Prop := ∀ a b : Int, 0 ≤ a ∧ a < w → 0 ≤ b → b * w + a < n → g (b * w + a).toNat = F a b
theorem zz_uniq {w a b x y : Int} (hw : 0 < w) (ha : 0 ≤ a ∧ a < w) (hx : 0 ≤ x ∧ x < w) (h : b * w + a = y * w + x) : a = x ∧ b = y := by
  have h1 : (b * w + a) % w = (y * w + x) % w := by rw [h]
  rw [Int.add_comm (b * w), Int.add_mul_emod_self_right, Int.add_comm (y * w), Int.add_mul_emod_self_right, Int.emod_eq_of_lt ha.1 ha.2, Int.emod_eq_of_lt hx.1 hx.2] at h1
  refine ⟨h1, ?_⟩
  have h2 : b * w = y * w := by omega
  exact Int.eq_of_mul_eq_mul_right (by omega) h2
theorem zfil.put {w x y : Int} {F : Int → Int → Int} {g : Nat → Int} (h : zfil w F (y * w + x) g) (hx : 0 ≤ x ∧ x < w) (hy : 0 ≤ y) : zfil w F (y * w + x + 1) (fun j => if j = (y * w + x).toNat then F x y else g j) := by
  intro a b ha hb hn
  have p1 : 0 ≤ b * w := Int.mul_nonneg hb (by omega)
  have p2 : 0 ≤ y * w := Int.mul_nonneg hy (by omega)
  by_cases e : b * w + a = y * w + x
  · obtain ⟨rfl, rfl⟩ := zz_uniq (by omega) ha hx e
    simp
  · simp only
    rw [if_neg (by omega)]
    exact h a b ha hb (by omega)
/-- in the work picture, w wide and h high, the first n dots are those of F -/
def xLI (B : Nat) (σr : zSt) (w h : Int) (F : Int → Int → Int) (n : Int) (σs : zSt) : Prop := xScr B σr σs ∧ σs B 17 = σr B 17 ∧ σs (B + 2) 1 = w ∧ σs (B + 2) 2 = h ∧ zfil w F n (σs (B + 3))
theorem xLI.put {B : Nat} {σr σs : zSt} {w h x y : Int} {F : Int → Int → Int} (hl : xLI B σr w h F (y * w + x) σs) (hx : 0 ≤ x ∧ x < w) (hy : 0 ≤ y) : xLI B σr w h F (y * w + x + 1) (zu σs (B + 3) (y * w + x).toNat (F x y)) := by
  obtain ⟨h1, h2, h3, h4, h5⟩ := hl
  refine ⟨⟨fun k hk => by rw [zu_row _ _ (by omega)]; exact h1.1 k hk, fun b b1 b2 b3 => by rw [zu_row _ _ (by omega)]; exact h1.2 b b1 b2 b3⟩, by rw [zu_row _ _ (by omega)]; exact h2, by rw [zu_row _ _ (by omega)]; exact h3, by rw [zu_row _ _ (by omega)]; exact h4, ?_⟩
  have := h5.put hx hy
  rw [show zu σs (B + 3) (y * w + x).toNat (F x y) (B + 3) = (fun j => if j = (y * w + x).toNat then F x y else σs (B + 3) j) from funext fun j => by simp [zu]]
  exact this
theorem xLI.tal {B : Nat} {σr σs : zSt} {w h n : Int} {F : Int → Int → Int} {T : zTt} (hl : xLI B σr w h F n σs) : xLI B σr w h F n (zTs σs (B + 65) (B + 66) T) := by
  obtain ⟨h1, h2, h3, h4, h5⟩ := hl
  exact ⟨⟨fun k hk => by rw [zTs_o _ _ (by omega) (by omega)]; exact h1.1 k hk, fun b b1 b2 b3 => by rw [zTs_o _ _ (by omega) (by omega)]; exact h1.2 b b1 b2 b3⟩, by rw [zTs_o _ _ (by omega) (by omega)]; exact h2, by rw [zTs_o _ _ (by omega) (by omega)]; exact h3, by rw [zTs_o _ _ (by omega) (by omega)]; exact h4, by rw [zTs_o _ _ (by omega) (by omega)]; exact h5⟩
theorem xLI.start {B : Nat} {σ : zSt} {w h : Int} {F : Int → Int → Int} : xLI B σ w h F 0 (zu (zu σ (B + 2) 1 w) (B + 2) 2 h) := by
  refine ⟨⟨fun k hk => by rw [zu_row _ _ (by omega), zu_row _ _ (by omega)], fun b b1 b2 b3 => by rw [zu_row _ _ (by omega), zu_row _ _ (by omega)]⟩, by rw [zu_row _ _ (by omega), zu_row _ _ (by omega)], by rw [zu_k _ _ (by omega), zu_eq], zu_eq _ _ _ _, fun a b ha hb hn => ?_⟩
  have p1 : 0 ≤ b * w := Int.mul_nonneg hb (by omega)
  omega
theorem xLI.pw {B : Nat} {σr σs : zSt} {w h n : Int} {F : Int → Int → Int} (hl : xLI B σr w h F n σs) (hw : 0 ≤ w ∧ w ≤ 16) (hh : 0 ≤ h ∧ h ≤ 12) : zPW σs (B + 2) := by
  obtain ⟨h1, h2, h3, h4, h5⟩ := hl
  unfold zPW
  omega
theorem xLI.pic {B : Nat} {σr σs : zSt} {w h n : Int} {F : Int → Int → Int} (hl : xLI B σr w h F n σs) (hn : h * w ≤ n) (hw : 1 ≤ w ∧ w ≤ 16) (hh : 1 ≤ h ∧ h ≤ 12) (hF : ∀ x y : Int, 0 ≤ x ∧ x < w → 0 ≤ y ∧ y < h → 0 ≤ F x y ∧ F x y ≤ 255) : xrPic σs (B + 2) (w, h, F) := by
  have hpw := hl.pw (by omega) (by omega)
  obtain ⟨h1, h2, h3, h4, h5⟩ := hl
  refine ⟨hpw, h3, fun _ => ⟨h4, hh.1, fun x y hx hy => ⟨?_, hF x y hx hy⟩⟩⟩
  have := zz_ix hx hy hw.2 hh.2
  have e : w * h = h * w := Int.mul_comm w h
  exact h5 x y hx hy.1 (by simp only at *; omega)
theorem xrPic.of {σ : zSt} {a : Nat} {p q : zPc} (h : xrPic σ a p) (h1 : p.1 = q.1) (h2 : p.2.1 = q.2.1) (h3 : ∀ x y : Int, 0 ≤ x ∧ x < p.1 → 0 ≤ y ∧ y < p.2.1 → p.2.2 x y = q.2.2 x y) : xrPic σ a q := by
  obtain ⟨g1, g2, g3⟩ := h
  refine ⟨g1, g2.trans h1, fun h0 => ?_⟩
  obtain ⟨k1, k2, k3⟩ := g3 (by omega)
  refine ⟨k1.trans h2, by omega, fun x y hx hy => ?_⟩
  rw [← h3 x y (by omega) (by omega), ← h1]
  exact k3 x y (by omega) (by omega)
/-! ===== dot, often ===== -/
theorem X_dot {G : zG} {B : Nat} {σ τ : zSt} {A : zA} {p x y : Int} (h : zxR B σ τ A) (hp : -2147483648 ≤ p ∧ p ≤ 2147483647) (hx : -2147483648 ≤ x ∧ x ≤ 2147483647) (hy : -2147483648 ≤ y ∧ y ≤ 2147483647) : zC G M_X10_dot [.ref B, vi p, vi x, vi y] (zxS B, σ, τ) (xQ B (sp_dot A p x y)) := by
  refine zC_of 0 rfl (Nat.le_of_ble_eq_true rfl) ?_
  have J : ∀ v : Int, v = (if aDot A p x y then 0 else 1) → zW G M_X10_dot (xQ B (sp_dot A p x y)) 16 [some (.ref B), some (vi p), some (vi x), some (vi y)] [vi v, .ref B] (zxS B, σ, τ) := by
    intro v hv

    refine zw_cVi1 19 rfl dX10_dot_16 kX10_dot_105 (Nat.le_of_ble_eq_true rfl) (by first | assumption | exact zx_o0 | exact zx_o _ _ _ rfl) (c_refused (by rw [hv]; (repeat' split) <;> omega)) ?_
    refine zw_if_eqB 24 22 rfl dX10_dot_19 (by decide) (fun h_19 => ?_) (fun h_19 => ?_)
    · have hc1 : aDot A p x y := Decidable.byContradiction fun q => by rw [if_neg q] at hv; (try split at hv) <;> omega
      rw [if_pos hc1] at hv
      subst hv
      have hP1 := xScr.z (v := 0) |>.P h.1
      refine zw_aload_n 25 rfl dX10_dot_24 rfl ?_
      refine zw_getr 28 rfl dX10_dot_25 fl_X10_11 (by first | assumption | exact zx_o0 | exact zx_o _ _ _ rfl) (by first | assumption | exact zx_f0 _ _ rfl | exact zx_f _ _ _ rfl) ?_
      refine zw_iload_n 29 rfl dX10_dot_28 rfl ?_
      refine zw_aald 30 rfl dX10_dot_29 (by first | assumption | exact zx_o0 | exact zx_o _ _ _ rfl) (by omega) (by omega) (by first | assumption | exact zx_p6r (by omega)) ?_
      refine zw_iload_n 31 rfl dX10_dot_30 rfl ?_
      refine zw_iload_n 32 rfl dX10_dot_31 rfl ?_
      refine zw_cVi2 35 rfl dX10_dot_32 kX10_dot_174 (Nat.le_of_ble_eq_true rfl) (zx_p6 (by omega)).1 (c_shadeAt (zx_p6 (by omega)) (hP1 p.toNat (by omega)).1 hx hy) ?_
      exact zw_iret (st := []) dX10_dot_35 rfl (xRead h (if_pos hc1) xScr.z rfl (zu_eq _ _ _ _) ((hP1 p.toNat (by omega)).dot hc1.1.2 hc1.2.1 hc1.2.2) rfl)
    · refine zw_iconst 23 rfl dX10_dot_22 ?_
      subst hv
      exact zw_iret (st := []) dX10_dot_23 rfl (xRef h h_19 (by (repeat' split) <;> omega))
  refine zw_aload_n 1 rfl dX10_dot_0 rfl ?_
  refine zw_aload_n 2 rfl dX10_dot_1 rfl ?_
  refine zw_iload_n 3 rfl dX10_dot_2 rfl ?_
  refine zw_iload_n 4 rfl dX10_dot_3 rfl ?_
  refine zw_iload_n 5 rfl dX10_dot_4 rfl ?_
  refine zw_cVi3 8 rfl dX10_dot_5 kX10_dot_171 (Nat.le_of_ble_eq_true rfl) (by first | assumption | exact zx_o0 | exact zx_o _ _ _ rfl) (c_hasDot h.1 hp hx hy) ?_
  refine zw_if_eqB 15 11 rfl dX10_dot_8 (by decide) (fun h_8 => ?_) (fun h_8 => ?_)
  · refine zw_iconst 16 rfl dX10_dot_15 ?_
    exact J _ (by simp only [if_neg h_8])
  · refine zw_iconst 12 rfl dX10_dot_11 ?_
    refine zw_goto 16 dX10_dot_12 (by decide) ?_
    exact J _ (by simp only [if_pos h_8])
theorem xScr.tal {B : Nat} {σ : zSt} {T : zTt} : xScr B σ (zTs σ (B + 65) (B + 66) T) := ⟨fun k hk => by rw [zTs_o _ _ (by omega) (by omega)], fun b b1 b2 b3 => by rw [zTs_o _ _ (by omega) (by omega)]⟩
theorem zTs_t (σ : zSt) (ta tt : Nat) (T : zTt) : zTs σ ta tt T tt = T.1 := by unfold zTs; rw [zr_eq]
theorem zTs_a (σ : zSt) {ta tt : Nat} (T : zTt) (h : tt ≠ ta) : zTs σ ta tt T ta 1 = T.2.1 ∧ zTs σ ta tt T ta 2 = T.2.2 := by unfold zTs; constructor <;> simp [zr, zu, Ne.symm h]
theorem X_often {G : zG} {B : Nat} {σ τ : zSt} {A : zA} {p s : Int} (h : zxR B σ τ A) (hp : -2147483648 ≤ p ∧ p ≤ 2147483647) (hs : -2147483648 ≤ s ∧ s ≤ 2147483647) : zC G M_X10_often [.ref B, vi p, vi s] (zxS B, σ, τ) (xQ B (sp_often A p s)) := by
  refine zC_of 0 rfl (Nat.le_of_ble_eq_true rfl) ?_
  have J : ∀ v : Int, v = (if aTold A p then if 0 ≤ s ∧ s ≤ 255 then 0 else 2 else 1) → zW G M_X10_often (xQ B (sp_often A p s)) 25 [some (.ref B), some (vi p), some (vi s)] [vi v, .ref B] (zxS B, σ, τ) := by
    intro v hv

    refine zw_cVi1 28 rfl dX10_often_25 kX10_often_105 (Nat.le_of_ble_eq_true rfl) (by first | assumption | exact zx_o0 | exact zx_o _ _ _ rfl) (c_refused (by rw [hv]; (repeat' split) <;> omega)) ?_
    refine zw_if_eqB 33 31 rfl dX10_often_28 (by decide) (fun h_28 => ?_) (fun h_28 => ?_)
    · have hc1 : aTold A p := Decidable.byContradiction fun q => by rw [if_neg q] at hv; (try split at hv) <;> omega
      rw [if_pos hc1] at hv
      have hc2 : 0 ≤ s ∧ s ≤ 255 := Decidable.byContradiction fun q => by rw [if_neg q] at hv; (try split at hv) <;> omega
      rw [if_pos hc2] at hv
      subst hv
      have hP1 := xScr.z (v := 0) |>.P h.1
      refine zw_aload_n 34 rfl dX10_often_33 rfl ?_
      refine zw_aload_n 35 rfl dX10_often_34 rfl ?_
      refine zw_getr 38 rfl dX10_often_35 fl_X10_11 (by first | assumption | exact zx_o0 | exact zx_o _ _ _ rfl) (by first | assumption | exact zx_f0 _ _ rfl | exact zx_f _ _ _ rfl) ?_
      refine zw_iload_n 39 rfl dX10_often_38 rfl ?_
      refine zw_aald 40 rfl dX10_often_39 (by first | assumption | exact zx_o0 | exact zx_o _ _ _ rfl) (by omega) (by omega) (by first | assumption | exact zx_p6r (by omega)) ?_
      refine zw_cVi1 43 rfl dX10_often_40 kX10_often_164 (Nat.le_of_ble_eq_true rfl) (by first | assumption | exact zx_o0 | exact zx_o _ _ _ rfl) (c_tallied (zx_p6 (by omega)) (hP1 p.toNat (by omega)) hc1.2 (by simp only [zpa]; omega)) ?_
      refine zw_getr 46 rfl dX10_often_43 fl_X10_181 (by first | assumption | exact zx_o0 | exact zx_o _ _ _ rfl) (by first | assumption | exact zx_f0 _ _ rfl | exact zx_f _ _ _ rfl) ?_
      refine zw_iload_n 47 rfl dX10_often_46 rfl ?_
      refine zw_iald 48 rfl dX10_often_47 (by first | assumption | exact zx_o0 | exact zx_o _ _ _ rfl) (by omega) (by omega) ?_
      refine zw_iret (st := []) dX10_often_48 rfl (xRead h (by simp only [if_pos hc1, if_pos hc2]) (xScr.z.tr xScr.tal) rfl (by rw [zTs_o _ _ (by omega) (by omega), zu_eq]) ?_ rfl)
      rw [zTs_t, aTal_full]
      have := aTal_many (t := zT0 (zu σ B 17 0) (B + 66)) (p := A.1 p.toNat) (v := s.toNat) (by omega) (by simp [zT0]; omega)
      rw [this, show ((s.toNat : Nat) : Int) = s by omega]
    · refine zw_iconst 32 rfl dX10_often_31 ?_
      subst hv
      exact zw_iret (st := []) dX10_often_32 rfl (xRef h h_28 (by (repeat' split) <;> omega))
  refine zw_aload_n 1 rfl dX10_often_0 rfl ?_
  refine zw_aload_n 2 rfl dX10_often_1 rfl ?_
  refine zw_iload_n 3 rfl dX10_often_2 rfl ?_
  refine zw_cVi1 6 rfl dX10_often_3 kX10_often_145 (Nat.le_of_ble_eq_true rfl) (by first | assumption | exact zx_o0 | exact zx_o _ _ _ rfl) (c_told h.1 hp) ?_
  refine zw_if_neB 13 9 rfl dX10_often_6 (by decide) (fun h_6 => ?_) (fun h_6 => ?_)
  · refine zw_iload_n 14 rfl dX10_often_13 rfl ?_
    refine zw_cSi1 17 rfl dX10_often_14 kX10_often_178 (Nat.le_of_ble_eq_true rfl) (c_isShade hs) ?_
    refine zw_if_neB 24 20 rfl dX10_often_17 (by decide) (fun h_17 => ?_) (fun h_17 => ?_)
    · refine zw_iconst 25 rfl dX10_often_24 ?_
      exact J _ (by simp only [if_pos h_6, if_pos h_17])
    · refine zw_iconst 21 rfl dX10_often_20 ?_
      refine zw_goto 25 dX10_often_21 (by decide) ?_
      exact J _ (by simp only [if_pos h_6, if_neg h_17])
  · refine zw_iconst 10 rfl dX10_often_9 ?_
    refine zw_goto 25 dX10_often_10 (by decide) ?_
    exact J _ (by simp only [if_neg h_6])
