/-! ===== folds ===== -/
theorem zfold_ind {α : Type} {f : Nat → α → α} (I : Nat → α → Prop) : ∀ (n : Nat) {a : α}, I 0 a → (∀ i b, i < n → I i b → I (i + 1) (f i b)) → I n (zfold f n a)
  | 0, _, h, _ => h
  | n + 1, _, h, hs => hs n _ (Nat.lt_succ_self n) (zfold_ind I n h (fun i b hi => hs i b (by omega)))
theorem zfold_win {α : Type} {F : Nat → α → α} {F' : Int → Int → α → α} {w h : Int} (hw : 0 ≤ w) (hh : 0 ≤ h) (heq : ∀ x y : Int, 0 ≤ x ∧ x < w → 0 ≤ y ∧ y < h → ∀ a, F (y * w + x).toNat a = F' x y a) (a : α) : zfold F (w * h).toNat a = zwin 0 w 0 h F' a := by
  obtain ⟨w, rfl⟩ := Int.eq_ofNat_of_zero_le hw
  obtain ⟨h, rfl⟩ := Int.eq_ofNat_of_zero_le hh
  rw [show ((w : Int) * h).toNat = h * w by rw [Int.mul_comm]; exact Int.toNat_natCast (h * w), zfold_rows]
  unfold zwin
  rw [show ((h : Int) - 0).toNat = h by omega, show ((w : Int) - 0).toNat = w by omega]
  refine zfold_cong h a (fun j b hj => zfold_cong w b (fun i c hi => ?_))
  rw [← heq (0 + i) (0 + j) (by omega) (by omega)]
  congr 1
  have : ((0 : Int) + j) * w + (0 + i) = ((j * w + i : Nat) : Int) := by simp
  omega
theorem zwin_cong {α : Type} {f g : Int → Int → α → α} {x0 x1 y0 y1 : Int} {a : α} (h : ∀ x y : Int, x0 ≤ x ∧ x < x1 → y0 ≤ y ∧ y < y1 → ∀ b, f x y b = g x y b) : zwin x0 x1 y0 y1 f a = zwin x0 x1 y0 y1 g a :=
  zfold_cong _ _ (fun j b hj => zfold_cong _ _ (fun i c hi => h _ _ (by omega) (by omega) c))
/-- what holds at first and is kept, by how many have come -/
theorem zwin_ind {α : Type} {f : Int → Int → α → α} {x0 x1 y0 y1 : Int} {a : α} (I : Nat → α → Prop) (h0 : I 0 a) (hs : ∀ n x y b, x0 ≤ x ∧ x < x1 → y0 ≤ y ∧ y < y1 → I n b → I (n + 1) (f x y b)) : I ((y1 - y0).toNat * (x1 - x0).toNat) (zwin x0 x1 y0 y1 f a) := by
  unfold zwin
  refine zfold_ind (fun j b => I (j * (x1 - x0).toNat) b) (y1 - y0).toNat (by simpa using h0) (fun j b hj hI => ?_)
  have := zfold_ind (f := fun i => f (x0 + i) (y0 + j)) (fun i c => I (j * (x1 - x0).toNat + i) c) (x1 - x0).toNat hI (fun i c hi hI => hs _ _ _ c (by omega) (by omega) hI)
  rw [Nat.succ_mul]
  exact this
/-! ===== what a Tally tells ===== -/
def tok (n : Nat) (T : zTt) : Prop := T.2.1 = n ∧ (0 ≤ T.2.2 ∧ T.2.2 ≤ 255 * n) ∧ ∀ v, v < 256 → 0 ≤ T.1 v ∧ T.1 v ≤ n
theorem tok.add {n : Nat} {T : zTt} {v : Int} (h : tok n T) (hv : 0 ≤ v ∧ v ≤ 255) : tok (n + 1) (tadd T v) := by
  obtain ⟨h1, h2, h3⟩ := h
  rw [tadd, if_pos hv]
  refine ⟨by simp only; omega, by simp only; omega, fun u hu => ?_⟩
  have := h3 u hu
  simp only
  split <;> omega
theorem tok.zero (σ : zSt) (tt : Nat) : tok 0 (zT0 σ tt) := ⟨rfl, by simp [zT0], fun v hv => by simp [zT0, hv]⟩
theorem c_unlike {G : zG} {S : zSh} {σ τ : zSt} {ta tt : Nat} (ht : zTal S ta tt) (hr : ∀ v : Nat, v < 256 → 0 ≤ σ tt v ∧ σ tt v ≤ 1000) : zC G M_X7_unlike [.ref ta] (S, σ, τ) (zR (some (vi (zfold (fun v m => m + if 0 < σ tt v then 1 else 0) 256 0))) (S, σ, τ)) := by
  obtain ⟨h1, h2, h3, h4⟩ := ht
  refine zC_of 2 rfl (Nat.le_of_ble_eq_true rfl) ?_
  generalize hF : (fun (v : Nat) (m : Int) => m + if 0 < σ tt v then (1 : Int) else 0) = F
  have loop : ∀ (n i : Nat), i ≤ 256 → 256 - i < n → zW G M_X7_unlike (zR (some (vi (zfold F 256 0))) (S, σ, τ)) 4 [some (.ref ta), some (vi (zfold F i 0)), some (vi i)] [] (S, σ, τ) := by
    intro n
    induction n with
    | zero => intro i h1 h2; omega
    | succ n ih =>
      intro i g1 g2
      have hi : zfold F (i + 1) 0 = zfold F i 0 + if 0 < σ tt i then 1 else 0 := by subst hF; rfl
      refine zw_iload_n 5 rfl dX7_unlike_4 rfl ?_
      refine zw_sipush 8 rfl dX7_unlike_5 rfl ?_
      refine zw_icmp_ge 34 11 rfl dX7_unlike_8 (by decide) (by omega) (by omega) (fun h_8 => ?_) (fun h_8 => ?_)
      · refine zw_iload_n 35 rfl dX7_unlike_34 rfl ?_
        exact zw_iretR dX7_unlike_35 rfl (by rw [show i = 256 by omega]) rfl
      · refine zw_iload_n 12 rfl dX7_unlike_11 rfl ?_
        refine zw_aload_n 13 rfl dX7_unlike_12 rfl ?_
        refine zw_getr 16 rfl dX7_unlike_13 fl_X7_9 (by first | assumption | exact zx_o0 | exact zx_o _ _ _ rfl) (by first | assumption | exact zx_f0 _ _ rfl | exact zx_f _ _ _ rfl) ?_
        refine zw_iload_n 17 rfl dX7_unlike_16 rfl ?_
        refine zw_iald 18 rfl dX7_unlike_17 (by first | assumption | exact zx_o0 | exact zx_o _ _ _ rfl) (by omega) (by omega) ?_
        simp only [Int.toNat_natCast]
        have hri := hr i (by omega)
        refine zw_if_le 25 21 rfl dX7_unlike_18 (by decide) (by omega) (fun h_18 => ?_) (fun h_18 => ?_)
        · refine zw_iconst 26 rfl dX7_unlike_25 ?_
          refine zw_iadd 27 rfl dX7_unlike_26 ?_
          refine zw_istore_n 28 rfl dX7_unlike_27 (Nat.le_of_ble_eq_true rfl) rfl ?_
          refine zw_iinc 31 rfl dX7_unlike_28 (Nat.le_of_ble_eq_true rfl) rfl rfl ?_
          refine zw_goto 4 dX7_unlike_31 (by decide) ?_
          have ih := ih (i + 1) (by omega) (by omega)
          first | (rw [hi, if_pos (by omega)] at ih) | (rw [hi, if_neg (by omega)] at ih)
          exact ih
        · refine zw_iconst 22 rfl dX7_unlike_21 ?_
          refine zw_goto 26 dX7_unlike_22 (by decide) ?_
          refine zw_iadd 27 rfl dX7_unlike_26 ?_
          refine zw_istore_n 28 rfl dX7_unlike_27 (Nat.le_of_ble_eq_true rfl) rfl ?_
          refine zw_iinc 31 rfl dX7_unlike_28 (Nat.le_of_ble_eq_true rfl) rfl rfl ?_
          refine zw_goto 4 dX7_unlike_31 (by decide) ?_
          have ih := ih (i + 1) (by omega) (by omega)
          first | (rw [hi, if_pos (by omega)] at ih) | (rw [hi, if_neg (by omega)] at ih)
          exact ih
  refine zw_iconst 1 rfl dX7_unlike_0 ?_
  refine zw_istore_n 2 rfl dX7_unlike_1 (Nat.le_of_ble_eq_true rfl) rfl ?_
  refine zw_iconst 3 rfl dX7_unlike_2 ?_
  refine zw_istore_n 4 rfl dX7_unlike_3 (Nat.le_of_ble_eq_true rfl) rfl ?_
  exact loop 257 0 (by omega) (by omega)
/-- the shade of a rank, by how often each comes -/
def zrk (t : Nat → Int) : Nat → Nat → Int → Int
  | 0, _, _ => -1
  | n + 1, k, l => if l < t k then k else zrk t n (k + 1) (l - t k)
theorem c_ofRank {G : zG} {S : zSh} {σ τ : zSt} {ta tt : Nat} {r : Int} (ht : zTal S ta tt) (hr : ∀ v : Nat, v < 256 → 0 ≤ σ tt v ∧ σ tt v ≤ 1000) (hrr : -10 ≤ r ∧ r ≤ 1000) : zC G M_X7_ofRank [.ref ta, vi r] (S, σ, τ) (zR (some (vi (zrk (σ tt) 256 0 r))) (S, σ, τ)) := by
  obtain ⟨h1, h2, h3, h4⟩ := ht
  refine zC_of 2 rfl (Nat.le_of_ble_eq_true rfl) ?_
  have loop : ∀ (n i : Nat) (l : Int), i + n = 256 → (-10 - 1000 * (i : Int) ≤ l ∧ l ≤ 1000) → zW G M_X7_ofRank (zR (some (vi (zrk (σ tt) n i l))) (S, σ, τ)) 4 [some (.ref ta), some (vi r), some (vi l), some (vi i)] [] (S, σ, τ) := by
    intro n
    induction n with
    | zero =>
      intro i l g1 g2
      refine zw_iload_n 5 rfl dX7_ofRank_4 rfl ?_
      refine zw_sipush 8 rfl dX7_ofRank_5 rfl ?_
      refine zw_icmp_ge 38 11 rfl dX7_ofRank_8 (by decide) (by omega) (by omega) (fun h_8 => ?_) (fun h_8 => ?_)
      · refine zw_iconst 39 rfl dX7_ofRank_38 ?_
        exact zw_iretR dX7_ofRank_39 rfl rfl rfl
      · omega
    | succ n ih =>
      intro i l g1 g2
      have hri := hr i (by omega)
      refine zw_iload_n 5 rfl dX7_ofRank_4 rfl ?_
      refine zw_sipush 8 rfl dX7_ofRank_5 rfl ?_
      refine zw_icmp_ge 38 11 rfl dX7_ofRank_8 (by decide) (by omega) (by omega) (fun h_8 => ?_) (fun h_8 => ?_)
      · omega
      · refine zw_iload_n 12 rfl dX7_ofRank_11 rfl ?_
        refine zw_aload_n 13 rfl dX7_ofRank_12 rfl ?_
        refine zw_getr 16 rfl dX7_ofRank_13 fl_X7_9 (by first | assumption | exact zx_o0 | exact zx_o _ _ _ rfl) (by first | assumption | exact zx_f0 _ _ rfl | exact zx_f _ _ _ rfl) ?_
        refine zw_iload_n 17 rfl dX7_ofRank_16 rfl ?_
        refine zw_iald 18 rfl dX7_ofRank_17 (by first | assumption | exact zx_o0 | exact zx_o _ _ _ rfl) (by omega) (by omega) ?_
        simp only [Int.toNat_natCast]
        refine zw_icmp_ge 23 21 rfl dX7_ofRank_18 (by decide) (by omega) (by omega) (fun h_18 => ?_) (fun h_18 => ?_)
        · refine zw_iload_n 24 rfl dX7_ofRank_23 rfl ?_
          refine zw_aload_n 25 rfl dX7_ofRank_24 rfl ?_
          refine zw_getr 28 rfl dX7_ofRank_25 fl_X7_9 (by first | assumption | exact zx_o0 | exact zx_o _ _ _ rfl) (by first | assumption | exact zx_f0 _ _ rfl | exact zx_f _ _ _ rfl) ?_
          refine zw_iload_n 29 rfl dX7_ofRank_28 rfl ?_
          refine zw_iald 30 rfl dX7_ofRank_29 (by first | assumption | exact zx_o0 | exact zx_o _ _ _ rfl) (by omega) (by omega) ?_
          simp only [Int.toNat_natCast]
          refine zw_isub 31 rfl dX7_ofRank_30 ?_
          refine zw_istore_n 32 rfl dX7_ofRank_31 (Nat.le_of_ble_eq_true rfl) rfl ?_
          refine zw_iinc 35 rfl dX7_ofRank_32 (Nat.le_of_ble_eq_true rfl) rfl rfl ?_
          refine zw_goto 4 dX7_ofRank_35 (by decide) ?_
          have ih := ih (i + 1) (l - σ tt i) (by omega) (by omega)
          simp only [zrk]
          rw [if_neg (by omega)]
          exact ih
        · refine zw_iload_n 22 rfl dX7_ofRank_21 rfl ?_
          exact zw_iretR dX7_ofRank_22 rfl (by simp only [zrk]; rw [if_pos (by omega)]) rfl
  refine zw_iload_n 1 rfl dX7_ofRank_0 rfl ?_
  refine zw_istore_n 2 rfl dX7_ofRank_1 (Nat.le_of_ble_eq_true rfl) rfl ?_
  refine zw_iconst 3 rfl dX7_ofRank_2 ?_
  refine zw_istore_n 4 rfl dX7_ofRank_3 (Nat.le_of_ble_eq_true rfl) rfl ?_
  exact loop 256 0 r (by omega) (by omega)
theorem c_middle {G : zG} {S : zSh} {σ τ : zSt} {ta tt : Nat} (ht : zTal S ta tt) (hr : ∀ v : Nat, v < 256 → 0 ≤ σ tt v ∧ σ tt v ≤ 1000) (hm : 1 ≤ σ ta 1 ∧ σ ta 1 ≤ 1000) : zC G M_X7_middle [.ref ta] (S, σ, τ) (zR (some (vi (zrk (σ tt) 256 0 ((σ ta 1 - 1) / 2)))) (S, σ, τ)) := by
  have ht0 := ht
  obtain ⟨h1, h2, h3, h4⟩ := ht
  refine zC_of 0 rfl (Nat.le_of_ble_eq_true rfl) ?_
  refine zw_aload_n 1 rfl dX7_middle_0 rfl ?_
  refine zw_aload_n 2 rfl dX7_middle_1 rfl ?_
  refine zw_geti 5 rfl dX7_middle_2 fl_X7_21 (by first | assumption | exact zx_o0 | exact zx_o _ _ _ rfl) ?_
  refine zw_iconst 6 rfl dX7_middle_5 ?_
  refine zw_isub 7 rfl dX7_middle_6 ?_
  refine zw_iconst 8 rfl dX7_middle_7 ?_
  refine zw_idiv 9 rfl dX7_middle_8 (by omega) (by omega) ?_
  refine zw_cVi1 12 rfl dX7_middle_9 kX7_middle_36 (Nat.le_of_ble_eq_true rfl) (by first | assumption | exact zx_o0 | exact zx_o _ _ _ rfl) (c_ofRank ht0 hr (by omega)) ?_
  exact zw_iretR dX7_middle_12 rfl rfl rfl
theorem c_mean {G : zG} {S : zSh} {σ τ : zSt} {ta tt : Nat} (ht : zTal S ta tt) (hm : 1 ≤ σ ta 1 ∧ σ ta 1 ≤ 1000) (hs : 0 ≤ σ ta 2 ∧ σ ta 2 ≤ 1000000) : zC G M_X7_mean [.ref ta] (S, σ, τ) (zR (some (vi (znear (σ ta 2) (σ ta 1)))) (S, σ, τ)) := by
  obtain ⟨h1, h2, h3, h4⟩ := ht
  refine zC_of 0 rfl (Nat.le_of_ble_eq_true rfl) ?_
  refine zw_aload_n 1 rfl dX7_mean_0 rfl ?_
  refine zw_geti 4 rfl dX7_mean_1 fl_X7_25 (by first | assumption | exact zx_o0 | exact zx_o _ _ _ rfl) ?_
  refine zw_i2l 5 rfl dX7_mean_4 (by omega) ?_
  refine zw_aload_n 6 rfl dX7_mean_5 rfl ?_
  refine zw_geti 9 rfl dX7_mean_6 fl_X7_21 (by first | assumption | exact zx_o0 | exact zx_o _ _ _ rfl) ?_
  refine zw_i2l 10 rfl dX7_mean_9 (by omega) ?_
  refine zw_cSi2 13 rfl dX7_mean_10 kX7_mean_32 (Nat.le_of_ble_eq_true rfl) (c_nearest (by omega) (by omega)) ?_
  exact zw_iretR dX7_mean_13 rfl rfl rfl
/-! ===== counting the shades of a picture of the class ===== -/
/-- the tally of a part of a picture -/
def aTal (t0 : zTt) (p : zPc) (x y u v : Int) : zTt := zwin (zmx 0 x) (zmn (x + u) p.1) (zmx 0 y) (zmn (y + v) p.2.1) (fun x y T => tadd T (p.2.2 x y)) t0
theorem xrPic.dot {σ : zSt} {a : Nat} {p : zPc} (h : xrPic σ a p) (h0 : 0 < p.1) {x y : Int} (hx : 0 ≤ x ∧ x < p.1) (hy : 0 ≤ y ∧ y < p.2.1) : zDot σ a (a + 1) x y = p.2.2 x y := by
  obtain ⟨h1, h2, h3⟩ := h
  obtain ⟨g1, g2, g3⟩ := h3 h0
  rw [zDot, if_pos (by rw [zHas, h2, g1]; exact ⟨hx, hy⟩), h2]
  exact (g3 x y hx hy).1
theorem xrPic.sd {σ : zSt} {a : Nat} {p : zPc} (h : xrPic σ a p) (h0 : 0 < p.1) : zSd σ (a + 1) (σ a 1 * σ a 2) := by
  obtain ⟨h1, h2, h3⟩ := h
  obtain ⟨g1, g2, g3⟩ := h3 h0
  intro j hj
  rw [h2, g1] at hj
  have e1 : (j : Int) = ((j : Int) / p.1) * p.1 + (j : Int) % p.1 := by have := Int.emod_add_mul_ediv (j : Int) p.1; rw [Int.mul_comm]; omega
  have e2 := Int.emod_nonneg (j : Int) (show p.1 ≠ 0 by omega)
  have e3 := Int.emod_lt_of_pos (j : Int) h0
  have e4 : 0 ≤ (j : Int) / p.1 := Int.ediv_nonneg (by omega) (by omega)
  have e5 : (j : Int) / p.1 < p.2.1 := Int.ediv_lt_of_lt_mul h0 (by rw [Int.mul_comm]; exact hj)
  have := g3 ((j : Int) % p.1) ((j : Int) / p.1) ⟨e2, e3⟩ ⟨e4, e5⟩
  rw [← e1, Int.toNat_natCast] at this
  rw [this.1]
  exact this.2
theorem xrPic.wh {σ : zSt} {a : Nat} {p : zPc} (h : xrPic σ a p) (h0 : 0 < p.1) : (σ a 1 = p.1 ∧ σ a 2 = p.2.1) ∧ (1 ≤ p.1 ∧ p.1 ≤ 16) ∧ 1 ≤ p.2.1 ∧ p.2.1 ≤ 12 := by
  obtain ⟨⟨⟨h1, h2⟩, h3, h4⟩, h5, h6⟩ := h
  obtain ⟨g1, g2, g3⟩ := h6 h0
  omega
theorem c_tallPart {G : zG} {B : Nat} {σ τ : zSt} {a : Nat} {p : zPc} {x y u v : Int} (hp : zPic (zxS B) a (a + 1)) (h : xrPic σ a p) (h0 : 0 < p.1) (hx : -100 ≤ x ∧ x ≤ 100) (hy : -100 ≤ y ∧ y ≤ 100) (hu : -100 ≤ u ∧ u ≤ 100) (hv : -100 ≤ v ∧ v ≤ 100) (hn : a + 1 < B + 65 ∨ B + 66 < a) :
    zC G M_X10_talliedPart [.ref B, .ref a, vi x, vi y, vi u, vi v] (zxS B, σ, τ) (zR (some (.ref (B + 65))) (zxS B, zTs σ (B + 65) (B + 66) (aTal (zT0 σ (B + 66)) p x y u v), τ)) := by
  have h1 := c_talliedPart (G := G) (τ := τ) hp h.1 hx hy hu hv (h.sd h0) (by omega) (by omega)
  have h2 := h.wh h0
  rw [h2.1.1, h2.1.2] at h1
  unfold aTal
  rw [zwin_cong (g := fun x y T => tadd T (p.2.2 x y))] at h1
  · exact h1
  · intro x' y' hx' hy' b
    rw [h.dot h0]
    · unfold zmx zmn at hx'; revert hx'; split <;> split <;> omega
    · unfold zmx zmn at hy'; revert hy'; split <;> split <;> omega
theorem c_tallied {G : zG} {B : Nat} {σ τ : zSt} {a : Nat} {p : zPc} (hp : zPic (zxS B) a (a + 1)) (h : xrPic σ a p) (h0 : 0 < p.1) (hn : a + 1 < B + 65 ∨ B + 66 < a) :
    zC G M_X10_tallied [.ref B, .ref a] (zxS B, σ, τ) (zR (some (.ref (B + 65))) (zxS B, zTs σ (B + 65) (B + 66) (aTal (zT0 σ (B + 66)) p 0 0 p.1 p.2.1), τ)) := by
  have h2 := h.wh h0
  refine zC_of 0 rfl (Nat.le_of_ble_eq_true rfl) ?_
  refine zw_aload_n 1 rfl dX10_tallied_0 rfl ?_
  refine zw_aload_n 2 rfl dX10_tallied_1 rfl ?_
  refine zw_iconst 3 rfl dX10_tallied_2 ?_
  refine zw_iconst 4 rfl dX10_tallied_3 ?_
  refine zw_aload_n 5 rfl dX10_tallied_4 rfl ?_
  refine zw_geti 8 rfl dX10_tallied_5 fl_X10_148 hp.1 ?_
  rw [h2.1.1]
  refine zw_aload_n 9 rfl dX10_tallied_8 rfl ?_
  refine zw_geti 12 rfl dX10_tallied_9 fl_X10_151 hp.1 ?_
  rw [h2.1.2]
  refine zw_cVi5 15 rfl dX10_tallied_12 kX10_tallied_309 (Nat.le_of_ble_eq_true rfl) (by first | assumption | exact zx_o0 | exact zx_o _ _ _ rfl) (c_tallPart hp h h0 (by omega) (by omega) (by omega) (by omega) hn) ?_
  exact zw_aret (st := []) dX10_tallied_15 rfl (Or.inl ⟨_, rfl⟩) ⟨rfl, rfl⟩
theorem c_tallAround {G : zG} {B : Nat} {σ τ : zSt} {a : Nat} {p : zPc} {x y n : Int} (hp : zPic (zxS B) a (a + 1)) (h : xrPic σ a p) (h0 : 0 < p.1) (hx : 0 ≤ x ∧ x ≤ 20) (hy : 0 ≤ y ∧ y ≤ 20) (hn4 : 0 ≤ n ∧ n ≤ 4) (hn : a + 1 < B + 65 ∨ B + 66 < a) :
    zC G M_X10_talliedAround [.ref B, .ref a, vi x, vi y, vi n] (zxS B, σ, τ) (zR (some (.ref (B + 65))) (zxS B, zTs σ (B + 65) (B + 66) (aTal (zT0 σ (B + 66)) p (x - n) (y - n) (2 * n + 1) (2 * n + 1)), τ)) := by
  refine zC_of 0 rfl (Nat.le_of_ble_eq_true rfl) ?_
  refine zw_aload_n 1 rfl dX10_talliedAround_0 rfl ?_
  refine zw_aload_n 2 rfl dX10_talliedAround_1 rfl ?_
  refine zw_iload_n 3 rfl dX10_talliedAround_2 rfl ?_
  refine zw_iload 5 rfl dX10_talliedAround_3 rfl ?_
  refine zw_isub 6 rfl dX10_talliedAround_5 ?_
  refine zw_iload_n 7 rfl dX10_talliedAround_6 rfl ?_
  refine zw_iload 9 rfl dX10_talliedAround_7 rfl ?_
  refine zw_isub 10 rfl dX10_talliedAround_9 ?_
  refine zw_iconst 11 rfl dX10_talliedAround_10 ?_
  refine zw_iload 13 rfl dX10_talliedAround_11 rfl ?_
  refine zw_imul 14 rfl dX10_talliedAround_13 ?_
  refine zw_iconst 15 rfl dX10_talliedAround_14 ?_
  refine zw_iadd 16 rfl dX10_talliedAround_15 ?_
  refine zw_iconst 17 rfl dX10_talliedAround_16 ?_
  refine zw_iload 19 rfl dX10_talliedAround_17 rfl ?_
  refine zw_imul 20 rfl dX10_talliedAround_19 ?_
  refine zw_iconst 21 rfl dX10_talliedAround_20 ?_
  refine zw_iadd 22 rfl dX10_talliedAround_21 ?_
  refine zw_cVi5 25 rfl dX10_talliedAround_22 kX10_talliedAround_309 (Nat.le_of_ble_eq_true rfl) (by first | assumption | exact zx_o0 | exact zx_o _ _ _ rfl) (c_tallPart hp h h0 (by omega) (by omega) (by omega) (by omega) hn) ?_
  exact zw_aret (st := []) dX10_talliedAround_25 rfl (Or.inl ⟨_, rfl⟩) ⟨rfl, rfl⟩
