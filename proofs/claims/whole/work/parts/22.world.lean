/-- a local that is read no more -/
theorem zw_drop {G : zG} {M : zMt} {Q : Option Value → zWd → Prop} {pc : Nat} {lv : List (Option Value)} {st : List Value} {w : zWd} (i : Nat) (k : zW G M Q pc (lv.set i none) st w) : zW G M Q pc lv st w := by
  intro p l e s m args below meth c H locs ls hc hl hh
  refine k p l e s m args below meth c H locs ls hc ?_ hh
  obtain ⟨l0, h1, h2⟩ := hl
  refine ⟨l0, h1, fun j v hj => h2 j v ?_⟩
  by_cases hji : j = i
  · subst hji
    rw [List.getElem?_set] at hj
    simp only [if_true] at hj
    split at hj <;> simp at hj
  · rw [List.getElem?_set_ne (Ne.symm hji)] at hj
    exact hj
/-! ===== where the things of a ShadeGrid lie, from its own address on ===== -/
def zx_k : List (Nat × Nat) := [(10, 0), (14, 6), (5, 0), (12, 192), (5, 0), (12, 192), (0, 0), (14, 10), (12, 10), (5, 0), (12, 192), (5, 0), (12, 192), (5, 0), (12, 192), (5, 0), (12, 192), (5, 0), (12, 192), (5, 0), (12, 192), (5, 0), (12, 192), (5, 0), (12, 192), (5, 0), (12, 192), (5, 0), (12, 192), (8, 0), (12, 700), (9, 0), (14, 4), (2, 0), (12, 64), (12, 4), (5, 0), (12, 192), (5, 0), (12, 192), (5, 0), (12, 192), (5, 0), (12, 192), (2, 0), (12, 64), (12, 4), (1, 0), (5, 0), (12, 192), (5, 0), (12, 192), (12, 3), (12, 256), (12, 144), (3, 0), (13, 396), (1, 0), (5, 0), (12, 192), (5, 0), (12, 192), (12, 3), (12, 256), (12, 144), (7, 0), (12, 256), (6, 0), (12, 192), (12, 192), (12, 192), (4, 0), (12, 356), (12, 203), (5, 0), (12, 192), (5, 0), (12, 192), (5, 0), (12, 192), (5, 0), (12, 192), (5, 0), (12, 192), (5, 0), (12, 192)]
def zx_r : List (List Nat) := [[1, 2, 4, 6, 29, 31, 44, 47, 55, 57, 65, 67, 71, 73], [74, 76, 78, 80, 82, 84], [3], [], [5], [], [7, 8], [9, 11, 13, 15, 17, 19, 21, 23, 25, 27], [], [10], [], [12], [], [14], [], [16], [], [18], [], [20], [], [22], [], [24], [], [26], [], [28], [], [30], [], [32, 33], [36, 38, 40, 42], [34, 35], [], [], [37], [], [39], [], [41], [], [43], [], [45, 46], [], [], [48, 50, 52, 53, 54], [49], [], [51], [], [], [], [], [56], [], [58, 60, 62, 63, 64], [59], [], [61], [], [], [], [], [66], [], [68, 69, 70], [], [], [], [72], [], [], [75], [], [77], [], [79], [], [81], [], [83], [], [85], []]
def zxS (B : Nat) : zSh := (List.range' B 86, fun a => zx_k.getD (a - B) (99, 0), fun a k => (((zx_r.getD (a - B) [])[k]?).map (fun b => B + b)))
theorem zx_o {B : Nat} (k c n : Nat) (h : zx_k[k]? = some (c, n)) : zo (zxS B) (B + k) c n := by
  have hk : k < 86 := (List.getElem?_eq_some_iff.mp h).1
  refine ⟨by simp [zxS]; omega, ?_⟩
  simp [zxS, List.getD, h]
theorem zx_o0 {B : Nat} : zo (zxS B) B 10 0 := zx_o (B := B) 0 10 0 rfl
theorem zx_f {B : Nat} (k j b : Nat) (h : (zx_r.getD k [])[j]? = some b) : (zxS B).2.2 (B + k) j = some (B + b) := by
  show ((zx_r.getD (B + k - B) [])[j]?).map (fun b => B + b) = some (B + b)
  rw [show B + k - B = k by omega, h]; rfl
theorem zx_f0 {B : Nat} (j b : Nat) (h : (zx_r.getD 0 [])[j]? = some b) : (zxS B).2.2 B j = some (B + b) := zx_f (B := B) 0 j b h
theorem zx_pic {B : Nat} (k : Nat) (h : zx_k[k]? = some (5, 0)) (h1 : zx_k[k + 1]? = some (12, 192)) (h2 : (zx_r.getD k [])[0]? = some (k + 1)) : zPic (zxS B) (B + k) (B + k + 1) := ⟨zx_o k 5 0 h, zx_f k 0 (k + 1) h2, zx_o (k + 1) 12 192 h1, by omega⟩
/-- picture i of the six -/
abbrev zpa (B i : Nat) : Nat := B + (74 + 2 * i)
theorem zx_p6 {B i : Nat} (h : i < 6) : zPic (zxS B) (zpa B i) (zpa B i + 1) := by
  have t : ∀ i, i < 6 → zx_k[74 + 2 * i]? = some (5, 0) ∧ zx_k[74 + 2 * i + 1]? = some (12, 192) ∧ (zx_r.getD (74 + 2 * i) [])[0]? = some (74 + 2 * i + 1) := by decide
  exact zx_pic _ (t i h).1 (t i h).2.1 (t i h).2.2
theorem zx_p6r {B i : Nat} (h : i < 6) : (zxS B).2.2 (B + 1) i = some (zpa B i) := by
  have t : ∀ i, i < 6 → (zx_r.getD 1 [])[i]? = some (74 + 2 * i) := by decide
  exact zx_f 1 i _ (t i h)
/-- what stood ahead of an act, k of ten -/
abbrev zha (B k : Nat) : Nat := B + (9 + 2 * k)
theorem zx_h10 {B i : Nat} (h : i < 10) : zPic (zxS B) (zha B i) (zha B i + 1) := by
  have t : ∀ i, i < 10 → zx_k[9 + 2 * i]? = some (5, 0) ∧ zx_k[9 + 2 * i + 1]? = some (12, 192) ∧ (zx_r.getD (9 + 2 * i) [])[0]? = some (9 + 2 * i + 1) := by decide
  exact zx_pic _ (t i h).1 (t i h).2.1 (t i h).2.2
theorem zx_h10r {B i : Nat} (h : i < 10) : (zxS B).2.2 (B + 7) i = some (zha B i) := by
  have t : ∀ i, i < 10 → (zx_r.getD 7 [])[i]? = some (9 + 2 * i) := by decide
  exact zx_f 7 i _ (t i h)
/-- a picture of the reader's, k of four -/
abbrev zra (B k : Nat) : Nat := B + (36 + 2 * k)
theorem zx_r4 {B i : Nat} (h : i < 4) : zPic (zxS B) (zra B i) (zra B i + 1) := by
  have t : ∀ i, i < 4 → zx_k[36 + 2 * i]? = some (5, 0) ∧ zx_k[36 + 2 * i + 1]? = some (12, 192) ∧ (zx_r.getD (36 + 2 * i) [])[0]? = some (36 + 2 * i + 1) := by decide
  exact zx_pic _ (t i h).1 (t i h).2.1 (t i h).2.2
theorem zx_r4r {B i : Nat} (h : i < 4) : (zxS B).2.2 (B + 32) i = some (zra B i) := by
  have t : ∀ i, i < 4 → (zx_r.getD 32 [])[i]? = some (36 + 2 * i) := by decide
  exact zx_f 32 i _ (t i h)
theorem zx_work {B : Nat} : zPic (zxS B) (B + 2) (B + 3) := zx_pic 2 rfl rfl rfl
theorem zx_ahead {B : Nat} : zPic (zxS B) (B + 4) (B + 5) := zx_pic 4 rfl rfl rfl
/-! ===== counting shades ===== -/
def zTal (S : zSh) (ta tt : Nat) : Prop := zo S ta 7 0 ∧ S.2.2 ta 0 = some tt ∧ zo S tt 12 256 ∧ tt ≠ ta
theorem zx_tal {B : Nat} : zTal (zxS B) (B + 65) (B + 66) := ⟨zx_o 65 7 0 rfl, zx_f 65 0 66 rfl, zx_o 66 12 256 rfl, by omega⟩
abbrev zTt : Type := (Nat → Int) × Int × Int
def zTs (σ : zSt) (ta tt : Nat) (T : zTt) : zSt := zr (zu (zu σ ta 1 T.2.1) ta 2 T.2.2) tt T.1
def tadd (T : zTt) (v : Int) : zTt := if 0 ≤ v ∧ v ≤ 255 then ((fun j => if j = v.toNat then T.1 j + 1 else T.1 j), T.2.1 + 1, T.2.2 + v) else T
theorem zTs_o (σ : zSt) {ta tt b : Nat} (T : zTt) (h1 : b ≠ ta) (h2 : b ≠ tt) : zTs σ ta tt T b = σ b := by funext j; simp [zTs, zr, zu, h1, h2]
theorem c_tadd {G : zG} {S : zSh} {σ τ : zSt} {ta tt : Nat} {T : zTt} {v : Int} (ht : zTal S ta tt) (hv : -2147483648 ≤ v ∧ v ≤ 2147483647) : zC G M_X7_add [.ref ta, vi v] (S, zTs σ ta tt T, τ) (zR none (S, zTs σ ta tt (tadd T v), τ)) := by
  obtain ⟨h1, h2, h3, h4⟩ := ht
  have h5 := Ne.symm h4
  refine zC_of 0 rfl (Nat.le_of_ble_eq_true rfl) ?_
  refine zw_iload_n 1 rfl dX7_add_0 rfl ?_
  refine zw_cSi1 4 rfl dX7_add_1 kX7_add_28 (Nat.le_of_ble_eq_true rfl) (c_isShade hv) ?_
  refine zw_if_eqB 37 7 rfl dX7_add_4 (by decide) (fun h_4 => ?_) (fun h_4 => ?_)
  · exact zw_vretR dX7_add_37 rfl (by first | (rw [tadd, if_neg h_4]) | (rw [tadd, if_pos h_4]; congr 2; funext b j; simp only [zTs, zr, zu]; by_cases e1 : b = ta <;> by_cases e2 : b = tt <;> by_cases e3 : j = 1 <;> by_cases e4 : j = 2 <;> by_cases e5 : j = v.toNat <;> simp_all))
  · refine zw_aload_n 8 rfl dX7_add_7 rfl ?_
    refine zw_getr 11 rfl dX7_add_8 fl_X7_9 (by first | assumption | exact zx_o0 | exact zx_o _ _ _ rfl) (by first | assumption | exact zx_f0 _ _ rfl | exact zx_f _ _ _ rfl) ?_
    refine zw_iload_n 12 rfl dX7_add_11 rfl ?_
    refine zw_dup2_11 13 rfl dX7_add_12 rfl rfl ?_
    refine zw_iald 14 rfl dX7_add_13 (by first | assumption | exact zx_o0 | exact zx_o _ _ _ rfl) (by omega) (by omega) ?_
    refine zw_iconst 15 rfl dX7_add_14 ?_
    refine zw_iadd 16 rfl dX7_add_15 ?_
    refine zw_iast 17 rfl dX7_add_16 (by first | assumption | exact zx_o0 | exact zx_o _ _ _ rfl) (by omega) (by omega) ?_
    refine zw_aload_n 18 rfl dX7_add_17 rfl ?_
    refine zw_dup 19 rfl dX7_add_18 rfl ?_
    refine zw_geti 22 rfl dX7_add_19 fl_X7_21 (by first | assumption | exact zx_o0 | exact zx_o _ _ _ rfl) ?_
    refine zw_iconst 23 rfl dX7_add_22 ?_
    refine zw_iadd 24 rfl dX7_add_23 ?_
    refine zw_puti 27 rfl dX7_add_24 fp_X7_21 (by first | assumption | exact zx_o0 | exact zx_o _ _ _ rfl) ?_
    refine zw_aload_n 28 rfl dX7_add_27 rfl ?_
    refine zw_dup 29 rfl dX7_add_28 rfl ?_
    refine zw_geti 32 rfl dX7_add_29 fl_X7_25 (by first | assumption | exact zx_o0 | exact zx_o _ _ _ rfl) ?_
    refine zw_iload_n 33 rfl dX7_add_32 rfl ?_
    refine zw_iadd 34 rfl dX7_add_33 ?_
    refine zw_puti 37 rfl dX7_add_34 fp_X7_25 (by first | assumption | exact zx_o0 | exact zx_o _ _ _ rfl) ?_
    exact zw_vretR dX7_add_37 rfl (by first | (rw [tadd, if_neg h_4]) | (rw [tadd, if_pos h_4]; congr 2; funext b j; simp only [zTs, zr, zu]; by_cases e1 : b = ta <;> by_cases e2 : b = tt <;> by_cases e3 : j = 1 <;> by_cases e4 : j = 2 <;> by_cases e5 : j = v.toNat <;> simp_all))
def zT0 (σ : zSt) (tt : Nat) : zTt := ((fun j => if j < 256 then 0 else σ tt j), 0, 0)
theorem c_tclear {G : zG} {S : zSh} {σ τ : zSt} {ta tt : Nat} (ht : zTal S ta tt) : zC G M_X7_clear [.ref ta] (S, σ, τ) (zR none (S, zTs σ ta tt (zT0 σ tt), τ)) := by
  obtain ⟨h1, h2, h3, h4⟩ := ht
  have h5 := Ne.symm h4
  refine zC_of 0 rfl (Nat.le_of_ble_eq_true rfl) ?_
  refine zw_aload_n 1 rfl dX7_clear_0 rfl ?_
  refine zw_getr 4 rfl dX7_clear_1 fl_X7_9 (by first | assumption | exact zx_o0 | exact zx_o _ _ _ rfl) (by first | assumption | exact zx_f0 _ _ rfl | exact zx_f _ _ _ rfl) ?_
  refine zw_iconst 5 rfl dX7_clear_4 ?_
  refine zw_cSv2 8 rfl dX7_clear_5 kX7_clear_15 (Nat.le_of_ble_eq_true rfl) (c_fillI h3 (by omega)) ?_
  refine zw_aload_n 9 rfl dX7_clear_8 rfl ?_
  refine zw_iconst 10 rfl dX7_clear_9 ?_
  refine zw_puti 13 rfl dX7_clear_10 fp_X7_21 (by first | assumption | exact zx_o0 | exact zx_o _ _ _ rfl) ?_
  refine zw_aload_n 14 rfl dX7_clear_13 rfl ?_
  refine zw_iconst 15 rfl dX7_clear_14 ?_
  refine zw_puti 18 rfl dX7_clear_15 fp_X7_25 (by first | assumption | exact zx_o0 | exact zx_o _ _ _ rfl) ?_
  exact zw_vretR dX7_clear_18 rfl (by congr 2; funext b j; simp only [zTs, zT0, zr, zu]; by_cases e1 : b = ta <;> by_cases e2 : b = tt <;> by_cases e3 : j = 1 <;> by_cases e4 : j = 2 <;> simp_all)
/-- all places of a part, row by row -/
def zwin {α : Type} (x0 x1 y0 y1 : Int) (f : Int → Int → α → α) (a : α) : α := zfold (fun j => zfold (fun i => f (x0 + i) (y0 + j)) (x1 - x0).toNat) (y1 - y0).toNat a
def zmx (a b : Int) : Int := if a < b then b else a
def zmn (a b : Int) : Int := if b < a then b else a
theorem zDot_o {σ σ' : zSt} {a sa : Nat} {x y : Int} (h1 : σ' a = σ a) (h2 : σ' sa = σ sa) : zDot σ' a sa x y = zDot σ a sa x y := by simp only [zDot, zHas, h1, h2]
theorem c_talliedPart {G : zG} {σ τ : zSt} {B a sa : Nat} {x y u v : Int} (hp : zPic (zxS B) a sa) (hw : zPW σ a) (hx : -100 ≤ x ∧ x ≤ 100) (hy : -100 ≤ y ∧ y ≤ 100) (hu : -100 ≤ u ∧ u ≤ 100) (hv : -100 ≤ v ∧ v ≤ 100) (hd : zSd σ sa (σ a 1 * σ a 2)) (n1 : a ≠ B + 65 ∧ a ≠ B + 66) (n2 : sa ≠ B + 65 ∧ sa ≠ B + 66) :
    zC G M_X10_talliedPart [.ref B, .ref a, vi x, vi y, vi u, vi v] (zxS B, σ, τ) (zR (some (.ref (B + 65))) (zxS B, zTs σ (B + 65) (B + 66) (zwin (zmx 0 x) (zmn (x + u) (σ a 1)) (zmx 0 y) (zmn (y + v) (σ a 2)) (fun x y T => tadd T (zDot σ a sa x y)) (zT0 σ (B + 66))), τ)) := by
  have hp0 := hp
  have hw0 := hw
  obtain ⟨ha, hs, hsa, hne⟩ := hp
  obtain ⟨⟨w0, w1⟩, w2, w3⟩ := hw
  have ho := zx_o0 (B := B)
  have hr := zx_f0 (B := B) 10 65 rfl
  have ht := zx_o (B := B) 65 7 0 rfl
  have e1 := fun T => zTs_o σ (ta := B + 65) (tt := B + 66) T n1.1 n1.2
  have e2 := fun T => zTs_o σ (ta := B + 65) (tt := B + 66) T n2.1 n2.2
  have hwT : ∀ T, zPW (zTs σ (B + 65) (B + 66) T) a := fun T => by unfold zPW; rw [e1]; exact hw0
  have hDT : ∀ T x y, zDot (zTs σ (B + 65) (B + 66) T) a sa x y = zDot σ a sa x y := fun T x y => zDot_o (e1 T) (e2 T)
  generalize hx0 : zmx 0 x = x0
  generalize hx1 : zmn (x + u) (σ a 1) = x1
  generalize hy0 : zmx 0 y = y0
  generalize hy1 : zmn (y + v) (σ a 2) = y1
  have bx0 : 0 ≤ x0 ∧ x0 ≤ 100 := by rw [← hx0, zmx]; split <;> omega
  have by0 : 0 ≤ y0 ∧ y0 ≤ 100 := by rw [← hy0, zmx]; split <;> omega
  have bx1 : -200 ≤ x1 ∧ x1 ≤ 16 := by rw [← hx1, zmn]; split <;> omega
  have by1 : -200 ≤ y1 ∧ y1 ≤ 12 := by rw [← hy1, zmn]; split <;> omega
  generalize hF : (fun (x y : Int) (T : zTt) => tadd T (zDot σ a sa x y)) = F
  have hF' : ∀ x y T, tadd T (zDot σ a sa x y) = F x y T := fun x y T => by rw [← hF]
  refine zC_of 4 rfl (Nat.le_of_ble_eq_true rfl) ?_
  have outer : ∀ (n j : Nat), (j : Int) ≤ (y1 - y0).toNat → ((y1 - y0).toNat : Int) - j < n → zW G M_X10_talliedPart (zR (some (.ref (B + 65))) (zxS B, zTs σ (B + 65) (B + 66) (zwin x0 x1 y0 y1 F (zT0 σ (B + 66))), τ)) 40 [some (.ref B), some (.ref a), some (vi x), some (vi y), some (vi u), some (vi v), some (vi x1), some (vi y1), some (vi (y0 + j)), none] [] (zxS B, zTs σ (B + 65) (B + 66) (zfold (fun j => zfold (fun i => F (x0 + i) (y0 + j)) (x1 - x0).toNat) j (zT0 σ (B + 66))), τ) := by
    intro n
    induction n with
    | zero => intro j h1 h2; omega
    | succ n ih =>
      intro j h1 h2
      generalize hT : zfold (fun j => zfold (fun i => F (x0 + i) (y0 + j)) (x1 - x0).toNat) j (zT0 σ (B + 66)) = T
      have inner : ∀ (m i : Nat) (o : Option Value), (j : Int) < (y1 - y0).toNat → (i : Int) ≤ (x1 - x0).toNat → ((x1 - x0).toNat : Int) - i < m → zW G M_X10_talliedPart (zR (some (.ref (B + 65))) (zxS B, zTs σ (B + 65) (B + 66) (zwin x0 x1 y0 y1 F (zT0 σ (B + 66))), τ)) 54 [some (.ref B), some (.ref a), some (vi x), some (vi y), some (vi u), some (vi v), some (vi x1), some (vi y1), some (vi (y0 + j)), some (vi (x0 + i))] [] (zxS B, zTs σ (B + 65) (B + 66) (zfold (fun i => F (x0 + i) (y0 + j)) i T), τ) := by
        intro m
        induction m with
        | zero => intro i o h3 h4 h5; omega
        | succ m ihm =>
          intro i o h3 h4 h5
          refine zw_iload 56 rfl dX10_talliedPart_54 rfl ?_
          refine zw_iload 58 rfl dX10_talliedPart_56 rfl ?_
          refine zw_icmp_ge 82 61 rfl dX10_talliedPart_58 (by decide) (by omega) (by omega) (fun h_58 => ?_) (fun h_58 => ?_)
          · refine zw_iinc 85 rfl dX10_talliedPart_82 (Nat.le_of_ble_eq_true rfl) rfl rfl ?_
            refine zw_goto 40 dX10_talliedPart_85 (by decide) ?_
            rw [show y0 + (j : Int) + 1 = y0 + ((j + 1 : Nat) : Int) by omega]
            have := ih (j + 1) (by omega) (by omega)
            simp only [zfold] at this
            rw [hT] at this
            rw [show i = (x1 - x0).toNat by omega]
            refine zw_drop 9 ?_
            exact this
          · refine zw_aload_n 62 rfl dX10_talliedPart_61 rfl ?_
            refine zw_getr 65 rfl dX10_talliedPart_62 fl_X10_71 (by first | assumption | exact zx_o0 | exact zx_o _ _ _ rfl) (by first | assumption | exact zx_f0 _ _ rfl | exact zx_f _ _ _ rfl) ?_
            refine zw_aload_n 66 rfl dX10_talliedPart_65 rfl ?_
            refine zw_iload 68 rfl dX10_talliedPart_66 rfl ?_
            refine zw_iload 70 rfl dX10_talliedPart_68 rfl ?_
            refine zw_cVi2 73 rfl dX10_talliedPart_70 kX10_talliedPart_174 (Nat.le_of_ble_eq_true rfl) (by first | assumption | exact zx_o0 | exact zx_o _ _ _ rfl) (c_shadeAt hp0 (hwT _) (by omega) (by omega)) ?_
            refine zw_cVv1 76 rfl dX10_talliedPart_73 kX10_talliedPart_420 (Nat.le_of_ble_eq_true rfl) (by first | assumption | exact zx_o0 | exact zx_o _ _ _ rfl) (c_tadd zx_tal (by rw [hDT]; have := zDot_r (x := x0 + i) (y := y0 + j) hw0 hd; omega)) ?_
            refine zw_iinc 79 rfl dX10_talliedPart_76 (Nat.le_of_ble_eq_true rfl) rfl rfl ?_
            refine zw_goto 54 dX10_talliedPart_79 (by decide) ?_
            rw [hDT, hF']
            rw [show x0 + (i : Int) + 1 = x0 + ((i + 1 : Nat) : Int) by omega]
            exact ihm (i + 1) none (by omega) (by omega) (by omega)
      refine zw_iload 42 rfl dX10_talliedPart_40 rfl ?_
      refine zw_iload 44 rfl dX10_talliedPart_42 rfl ?_
      refine zw_icmp_ge 88 47 rfl dX10_talliedPart_44 (by decide) (by omega) (by omega) (fun h_44 => ?_) (fun h_44 => ?_)
      · refine zw_aload_n 89 rfl dX10_talliedPart_88 rfl ?_
        refine zw_getr 92 rfl dX10_talliedPart_89 fl_X10_71 (by first | assumption | exact zx_o0 | exact zx_o _ _ _ rfl) (by first | assumption | exact zx_f0 _ _ rfl | exact zx_f _ _ _ rfl) ?_
        exact zw_aret (st := []) dX10_talliedPart_92 rfl (Or.inl ⟨_, rfl⟩) ⟨rfl, by rw [← hT, show j = (y1 - y0).toNat by omega]; rfl⟩
      · refine zw_iconst 48 rfl dX10_talliedPart_47 ?_
        refine zw_iload_n 49 rfl dX10_talliedPart_48 rfl ?_
        refine zw_mmax 52 rfl dX10_talliedPart_49 kmX10_342 ⟨Nat.le_of_ble_eq_true rfl, Nat.le_of_ble_eq_true rfl⟩ (by omega) (by omega) ?_
        refine zw_istore 54 rfl dX10_talliedPart_52 (Nat.le_of_ble_eq_true rfl) rfl ?_
        have := inner ((x1 - x0).toNat + 1) 0 none (by omega) (by omega) (by omega)
        rw [show (if (0 : Int) < x then x else 0) = x0 from hx0]
        rw [show x0 + ((0 : Nat) : Int) = x0 by omega] at this
        exact this
  refine zw_aload_n 1 rfl dX10_talliedPart_0 rfl ?_
  refine zw_getr 4 rfl dX10_talliedPart_1 fl_X10_71 (by first | assumption | exact zx_o0 | exact zx_o _ _ _ rfl) (by first | assumption | exact zx_f0 _ _ rfl | exact zx_f _ _ _ rfl) ?_
  refine zw_cVv0 7 rfl dX10_talliedPart_4 kX10_talliedPart_414 (Nat.le_of_ble_eq_true rfl) (by first | assumption | exact zx_o0 | exact zx_o _ _ _ rfl) (c_tclear zx_tal) ?_
  refine zw_iload_n 8 rfl dX10_talliedPart_7 rfl ?_
  refine zw_iload 10 rfl dX10_talliedPart_8 rfl ?_
  refine zw_iadd 11 rfl dX10_talliedPart_10 ?_
  refine zw_aload_n 12 rfl dX10_talliedPart_11 rfl ?_
  refine zw_geti 15 rfl dX10_talliedPart_12 fl_X10_148 (by first | assumption | exact zx_o0 | exact zx_o _ _ _ rfl) ?_
  rw [e1]
  refine zw_mmin 18 rfl dX10_talliedPart_15 kmX10_417 ⟨Nat.le_of_ble_eq_true rfl, Nat.le_of_ble_eq_true rfl⟩ (by omega) (by omega) ?_
  refine zw_istore 20 rfl dX10_talliedPart_18 (Nat.le_of_ble_eq_true rfl) rfl ?_
  refine zw_iload_n 21 rfl dX10_talliedPart_20 rfl ?_
  refine zw_iload 23 rfl dX10_talliedPart_21 rfl ?_
  refine zw_iadd 24 rfl dX10_talliedPart_23 ?_
  refine zw_aload_n 25 rfl dX10_talliedPart_24 rfl ?_
  refine zw_geti 28 rfl dX10_talliedPart_25 fl_X10_151 (by first | assumption | exact zx_o0 | exact zx_o _ _ _ rfl) ?_
  rw [e1]
  refine zw_mmin 31 rfl dX10_talliedPart_28 kmX10_417 ⟨Nat.le_of_ble_eq_true rfl, Nat.le_of_ble_eq_true rfl⟩ (by omega) (by omega) ?_
  refine zw_istore 33 rfl dX10_talliedPart_31 (Nat.le_of_ble_eq_true rfl) rfl ?_
  refine zw_iconst 34 rfl dX10_talliedPart_33 ?_
  refine zw_iload_n 35 rfl dX10_talliedPart_34 rfl ?_
  refine zw_mmax 38 rfl dX10_talliedPart_35 kmX10_342 ⟨Nat.le_of_ble_eq_true rfl, Nat.le_of_ble_eq_true rfl⟩ (by omega) (by omega) ?_
  refine zw_istore 40 rfl dX10_talliedPart_38 (Nat.le_of_ble_eq_true rfl) rfl ?_
  have := outer ((y1 - y0).toNat + 1) 0 (by omega) (by omega)
  rw [show (if (0 : Int) < y then y else 0) = y0 from hy0, show (if σ a 1 < x + u then σ a 1 else x + u) = x1 from hx1, show (if σ a 2 < y + v then σ a 2 else y + v) = y1 from hy1]
  rw [show y0 + ((0 : Nat) : Int) = y0 by omega] at this
  exact this
