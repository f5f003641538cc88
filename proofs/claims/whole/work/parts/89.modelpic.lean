/-! ===== the model's pictures ===== -/
def mPc (C : Nat) (σ : zSt) (p : Int) (q : zPc) : Prop := (0 ≤ p ∧ p ≤ 7) ∧ mrPic (σ (C + 9)) (194 * p.toNat) q ∧ 0 < q.1
theorem mPc.wh {C : Nat} {σ : zSt} {p : Int} {q : zPc} (h : mPc C σ p q) : (1 ≤ q.1 ∧ q.1 ≤ 16) ∧ 1 ≤ q.2.1 ∧ q.2.1 ≤ 12 := by
  obtain ⟨h1, ⟨h2, h3, h4⟩, h5⟩ := h
  have := (h4 h5).2.1
  omega
theorem mPc.d {C : Nat} {σ : zSt} {p x y : Int} {q : zPc} (h : mPc C σ p q) (hx : 0 ≤ x ∧ x < q.1) (hy : 0 ≤ y ∧ y < q.2.1) : 0 ≤ q.2.2 x y ∧ q.2.2 x y ≤ 255 := ((h.2.1.2.2 h.2.2).2.2 x y hx hy).2
theorem mPc.dots {C : Nat} {σ : zSt} {p : Int} {q : zPc} (h : mPc C σ p q) : aDots q := fun _ _ hx hy => h.d hx hy
theorem mPc.c {C : Nat} {σ σ' : zSt} {p : Int} {q : zPc} (h : mPc C σ p q) (hf : ∀ j, j < 194 → σ' (C + 9) (194 * p.toNat + j) = σ (C + 9) (194 * p.toNat + j)) : mPc C σ' p q := ⟨h.1, h.2.1.mv hf, h.2.2⟩
theorem mrP.pc {C : Nat} {σ : zSt} {p : Int} {P : Nat → zPc} (h : mrP (σ (C + 9)) 0 P) (hp : aPl p ∧ 0 < (P p.toNat).1) : mPc C σ p (P p.toNat) := by
  have := h p.toNat (by omega)
  rw [Nat.zero_add] at this
  exact ⟨by omega, this, hp.2⟩
theorem m_wideP {G : zG} {C : Nat} {σ τ : zSt} {p : Int} {q : zPc} (h : mPc C σ p q) : zC G M_X11_wide [.ref C, vi p] (zmS C, σ, τ) (zR (some (vi q.1)) (zmS C, σ, τ)) := by
  have := m_wide (G := G) (C := C) (σ := σ) (τ := τ) h.1
  rw [h.2.1.1] at this
  exact this
theorem m_highP {G : zG} {C : Nat} {σ τ : zSt} {p : Int} {q : zPc} (h : mPc C σ p q) : zC G M_X11_high [.ref C, vi p] (zmS C, σ, τ) (zR (some (vi q.2.1)) (zmS C, σ, τ)) := by
  have := m_high (G := G) (C := C) (σ := σ) (τ := τ) h.1
  rw [(h.2.1.2.2 h.2.2).1] at this
  exact this
theorem m_dotP {G : zG} {C : Nat} {σ τ : zSt} {p x y : Int} {q : zPc} (h : mPc C σ p q) (hx : 0 ≤ x ∧ x < q.1) (hy : 0 ≤ y ∧ y < q.2.1) : zC G M_X11_dotOf [.ref C, vi p, vi x, vi y] (zmS C, σ, τ) (zR (some (vi (q.2.2 x y))) (zmS C, σ, τ)) := by
  have hw := h.wh
  have := m_dotOf (G := G) (C := C) (σ := σ) (τ := τ) (x := x) (y := y) h.1 (by omega) (by omega)
  rw [((h.2.1.2.2 h.2.2).2.2 x y hx hy).1] at this
  exact this
theorem m_isDot {G : zG} {C : Nat} {σ τ : zSt} {P : Nat → zPc} {p x y : Int} (h : mrP (σ (C + 9)) 0 P) (hp : -2147483648 ≤ p ∧ p ≤ 2147483647) (hx : -2147483648 ≤ x ∧ x ≤ 2147483647) (hy : -2147483648 ≤ y ∧ y ≤ 2147483647) : zC G M_X11_isDot [.ref C, vi p, vi x, vi y] (zmS C, σ, τ) (zR (some (vi (zb ((aPl p ∧ 0 < (P p.toNat).1) ∧ (0 ≤ x ∧ x < (P p.toNat).1) ∧ 0 ≤ y ∧ y < (P p.toNat).2.1)))) (zmS C, σ, τ)) := by
  refine zC_of 0 rfl (Nat.le_of_ble_eq_true rfl) ?_
  refine zw_aload_n 1 rfl dX11_isDot_0 rfl ?_
  refine zw_iload_n 2 rfl dX11_isDot_1 rfl ?_
  refine zw_cVi1 5 rfl dX11_isDot_2 kX11_isDot_173 (Nat.le_of_ble_eq_true rfl) (by first | assumption | exact zm_o0 | exact zm_o _ _ _ rfl) (m_isPicture h hp) ?_
  refine zw_if_eqB 42 8 rfl dX11_isDot_5 (by decide) (fun h_5 => ?_) (fun h_5 => ?_)
  · refine zw_iconst 43 rfl dX11_isDot_42 ?_
    exact zw_zretR dX11_isDot_43 rfl (by omega) (by first | exact zb_f (fun q => h_5 q.1) | exact zb_f (fun q => h_20 (by omega)) | exact zb_f (fun q => h_35 (by omega)) | exact zb_t ⟨h_5, by omega⟩) rfl
  · have hq := h.pc h_5
    have hw := hq.wh
    refine zw_iload_n 9 rfl dX11_isDot_8 rfl ?_
    refine zw_iconst 10 rfl dX11_isDot_9 ?_
    refine zw_aload_n 11 rfl dX11_isDot_10 rfl ?_
    refine zw_iload_n 12 rfl dX11_isDot_11 rfl ?_
    refine zw_cVi1 15 rfl dX11_isDot_12 kX11_isDot_170 (Nat.le_of_ble_eq_true rfl) (by first | assumption | exact zm_o0 | exact zm_o _ _ _ rfl) (m_wideP hq) ?_
    refine zw_iconst 16 rfl dX11_isDot_15 ?_
    refine zw_isub 17 rfl dX11_isDot_16 ?_
    refine zw_cSi3 20 rfl dX11_isDot_17 kX11_isDot_106 (Nat.le_of_ble_eq_true rfl) (m_in (by omega) (by omega) (by omega)) ?_
    refine zw_if_eqB 42 23 rfl dX11_isDot_20 (by decide) (fun h_20 => ?_) (fun h_20 => ?_)
    · refine zw_iconst 43 rfl dX11_isDot_42 ?_
      exact zw_zretR dX11_isDot_43 rfl (by omega) (by first | exact zb_f (fun q => h_5 q.1) | exact zb_f (fun q => h_20 (by omega)) | exact zb_f (fun q => h_35 (by omega)) | exact zb_t ⟨h_5, by omega⟩) rfl
    · refine zw_iload_n 24 rfl dX11_isDot_23 rfl ?_
      refine zw_iconst 25 rfl dX11_isDot_24 ?_
      refine zw_aload_n 26 rfl dX11_isDot_25 rfl ?_
      refine zw_iload_n 27 rfl dX11_isDot_26 rfl ?_
      refine zw_cVi1 30 rfl dX11_isDot_27 kX11_isDot_176 (Nat.le_of_ble_eq_true rfl) (by first | assumption | exact zm_o0 | exact zm_o _ _ _ rfl) (m_highP hq) ?_
      refine zw_iconst 31 rfl dX11_isDot_30 ?_
      refine zw_isub 32 rfl dX11_isDot_31 ?_
      refine zw_cSi3 35 rfl dX11_isDot_32 kX11_isDot_106 (Nat.le_of_ble_eq_true rfl) (m_in (by omega) (by omega) (by omega)) ?_
      refine zw_if_eqB 42 38 rfl dX11_isDot_35 (by decide) (fun h_35 => ?_) (fun h_35 => ?_)
      · refine zw_iconst 43 rfl dX11_isDot_42 ?_
        exact zw_zretR dX11_isDot_43 rfl (by omega) (by first | exact zb_f (fun q => h_5 q.1) | exact zb_f (fun q => h_20 (by omega)) | exact zb_f (fun q => h_35 (by omega)) | exact zb_t ⟨h_5, by omega⟩) rfl
      · refine zw_iconst 39 rfl dX11_isDot_38 ?_
        refine zw_goto 43 dX11_isDot_39 (by decide) ?_
        exact zw_zretR dX11_isDot_43 rfl (by omega) (by first | exact zb_f (fun q => h_5 q.1) | exact zb_f (fun q => h_20 (by omega)) | exact zb_f (fun q => h_35 (by omega)) | exact zb_t ⟨h_5, by omega⟩) rfl
theorem m_areAsWide {G : zG} {C : Nat} {σ τ : zSt} {p q : Int} {P Q : zPc} (h : mPc C σ p P) (hq : mPc C σ q Q) : zC G M_X11_areAsWide [.ref C, vi p, vi q] (zmS C, σ, τ) (zR (some (vi (zb (P.1 = Q.1 ∧ P.2.1 = Q.2.1)))) (zmS C, σ, τ)) := by
  have h1 := h.wh
  have h2 := hq.wh
  refine zC_of 0 rfl (Nat.le_of_ble_eq_true rfl) ?_
  refine zw_aload_n 1 rfl dX11_areAsWide_0 rfl ?_
  refine zw_iload_n 2 rfl dX11_areAsWide_1 rfl ?_
  refine zw_cVi1 5 rfl dX11_areAsWide_2 kX11_areAsWide_170 (Nat.le_of_ble_eq_true rfl) (by first | assumption | exact zm_o0 | exact zm_o _ _ _ rfl) (m_wideP h) ?_
  refine zw_aload_n 6 rfl dX11_areAsWide_5 rfl ?_
  refine zw_iload_n 7 rfl dX11_areAsWide_6 rfl ?_
  refine zw_cVi1 10 rfl dX11_areAsWide_7 kX11_areAsWide_170 (Nat.le_of_ble_eq_true rfl) (by first | assumption | exact zm_o0 | exact zm_o _ _ _ rfl) (m_wideP hq) ?_
  refine zw_icmp_ne 30 13 rfl dX11_areAsWide_10 (by decide) (by omega) (by omega) (fun h_10 => ?_) (fun h_10 => ?_)
  · refine zw_iconst 31 rfl dX11_areAsWide_30 ?_
    exact zw_zretR dX11_areAsWide_31 rfl (by omega) (by first | exact zb_f (fun q => h_10 q.1) | exact zb_f (fun q => h_23 q.2) | exact zb_t ⟨h_10, h_23⟩) rfl
  · refine zw_aload_n 14 rfl dX11_areAsWide_13 rfl ?_
    refine zw_iload_n 15 rfl dX11_areAsWide_14 rfl ?_
    refine zw_cVi1 18 rfl dX11_areAsWide_15 kX11_areAsWide_176 (Nat.le_of_ble_eq_true rfl) (by first | assumption | exact zm_o0 | exact zm_o _ _ _ rfl) (m_highP h) ?_
    refine zw_aload_n 19 rfl dX11_areAsWide_18 rfl ?_
    refine zw_iload_n 20 rfl dX11_areAsWide_19 rfl ?_
    refine zw_cVi1 23 rfl dX11_areAsWide_20 kX11_areAsWide_176 (Nat.le_of_ble_eq_true rfl) (by first | assumption | exact zm_o0 | exact zm_o _ _ _ rfl) (m_highP hq) ?_
    refine zw_icmp_ne 30 26 rfl dX11_areAsWide_23 (by decide) (by omega) (by omega) (fun h_23 => ?_) (fun h_23 => ?_)
    · refine zw_iconst 31 rfl dX11_areAsWide_30 ?_
      exact zw_zretR dX11_areAsWide_31 rfl (by omega) (by first | exact zb_f (fun q => h_10 q.1) | exact zb_f (fun q => h_23 q.2) | exact zb_t ⟨h_10, h_23⟩) rfl
    · refine zw_iconst 27 rfl dX11_areAsWide_26 ?_
      refine zw_goto 31 dX11_areAsWide_27 (by decide) ?_
      exact zw_zretR dX11_areAsWide_31 rfl (by omega) (by first | exact zb_f (fun q => h_10 q.1) | exact zb_f (fun q => h_23 q.2) | exact zb_t ⟨h_10, h_23⟩) rfl
/-! ===== what was is kept ===== -/
def mRem (C : Nat) (σ σ' : zSt) (P : Nat → zPc) (Hs : List (Nat → zPc)) : Prop := mrH C σ' ((P :: Hs).take 10) ∧ ∀ b j, b ≠ C + 10 → (b = C → j ≠ 23) → σ' b j = σ b j
theorem mrH_push {C n : Nat} {σ σ' : zSt} {P : Nat → zPc} {Hs : List (Nat → zPc)} (hH : mrH C σ Hs) (hn : Hs.length = n) (h9 : n ≤ 9) (hP : mrP (σ (C + 9)) 0 P) (h1 : σ' C 23 = (n : Int) + 1) (h2 : σ' (C + 10) = zcpy (σ (C + 10)) (σ (C + 9)) 1164 0 (n * 1164)) : mrH C σ' (P :: Hs) := by
  obtain ⟨g1, g2, g3⟩ := hH
  refine ⟨by rw [h1, List.length_cons, hn]; rfl, by rw [List.length_cons]; omega, fun i hi => ?_⟩
  rw [List.length_cons] at hi ⊢
  cases i with
  | zero =>
    show mrP (σ' (C + 10)) _ P
    rw [h2]
    refine hP.mv (fun j hj => ?_)
    rw [show Hs.length + 1 - 1 - 0 = n by omega, zcpy_in _ _ hj, Nat.add_zero j, Nat.zero_add]
  | succ i =>
    have g := g3 i (by omega)
    show mrP (σ' (C + 10)) _ (Hs.getD i _)
    rw [h2]
    refine g.mv (fun j hj => ?_)
    rw [show Hs.length + 1 - 1 - (i + 1) = Hs.length - 1 - i by omega, zcpy_out _ _ (Or.inl ?_)]
    have : (Hs.length - 1 - i) * 1164 + 1164 ≤ n * 1164 := by rw [hn]; omega
    omega
theorem mrH_shift {C : Nat} {σ σ' : zSt} {Hs : List (Nat → zPc)} (hH : mrH C σ Hs) (hn : Hs.length = 10) (h1 : σ' C 23 = 9) (h2 : σ' (C + 10) = zcpy (σ (C + 10)) (σ (C + 10)) 10476 1164 0) : mrH C σ' (Hs.take 9) := by
  obtain ⟨g1, g2, g3⟩ := hH
  have hl : (Hs.take 9).length = 9 := by rw [List.length_take]; omega
  refine ⟨by rw [h1, hl]; rfl, by omega, fun i hi => ?_⟩
  rw [hl] at hi ⊢
  have g := g3 i (by omega)
  rw [show (Hs.take 9).getD i (fun _ => (0, 0, fun _ _ => 0)) = Hs.getD i (fun _ => (0, 0, fun _ _ => 0)) by simp only [List.getD_eq_getElem?_getD]; rw [List.getElem?_take, if_pos hi], h2]
  refine g.mv (fun j hj => ?_)
  have e := zcpy_in (σ (C + 10)) (σ (C + 10)) (n := 10476) (o := 1164) (d := 0) (j := (9 - 1 - i) * 1164 + j) (by omega)
  rw [Nat.zero_add] at e
  rw [e, show (9 - 1 - i) * 1164 + j + 1164 = (Hs.length - 1 - i) * 1164 + j by omega]
theorem m_remembers {G : zG} {C : Nat} {σ τ : zSt} {P : Nat → zPc} {Hs : List (Nat → zPc)} (hP : mrP (σ (C + 9)) 0 P) (hH : mrH C σ Hs) : zC G M_X11_remembers [.ref C] (zmS C, σ, τ) (fun r w' => r = none ∧ ∃ σ' : zSt, w' = (zmS C, σ', τ) ∧ mRem C σ σ' P Hs) := by
  have hL := hH.2.1
  refine zC_of 1 rfl (Nat.le_of_ble_eq_true rfl) ?_
  have L2 : ∀ (σ1 : zSt) (n : Nat) (Hs1 : List (Nat → zPc)), mrH C σ1 Hs1 → Hs1.length = n → n ≤ 9 → (P :: Hs1) = (P :: Hs).take 10 → (∀ b j, b ≠ C + 10 → (b = C → j ≠ 23) → σ1 b j = σ b j) → zW G M_X11_remembers (fun r w' => r = none ∧ ∃ σ' : zSt, w' = (zmS C, σ', τ) ∧ mRem C σ σ' P Hs) 60 [some (.ref C), some (vi 0)] [] (zmS C, σ1, τ) := by
    intro σ1 n Hs1 hH1 hn h9 hpt hf
    have hP1 : mrP (σ1 (C + 9)) 0 P := hP.mv (fun j _ => hf _ _ (by omega) (by omega))
    have ha : σ1 C 23 = n := by rw [hH1.1, hn]
    have key : ∀ σs : zSt, (∀ b, b ≠ C + 10 → σs b = σ1 b) → σs (C + 10) = zcpy (σ1 (C + 10)) (σ1 (C + 9)) 0 0 (n * 1164) → zW G M_X11_remembers (fun r w' => r = none ∧ ∃ σ' : zSt, w' = (zmS C, σ', τ) ∧ mRem C σ σ' P Hs) 60 [some (.ref C), some (vi (0 : Nat))] [] (zmS C, σs, τ) := by
      refine zloop (n := 1164) (L := fun k => ∀ σs : zSt, (∀ b, b ≠ C + 10 → σs b = σ1 b) → σs (C + 10) = zcpy (σ1 (C + 10)) (σ1 (C + 9)) k 0 (n * 1164) → zW G M_X11_remembers (fun r w' => r = none ∧ ∃ σ' : zSt, w' = (zmS C, σ', τ) ∧ mRem C σ σ' P Hs) 60 [some (.ref C), some (vi (k : Nat))] [] (zmS C, σs, τ)) ?_ ?_
      · intro σs e1 e2
        refine zw_iload_n 61 rfl dX11_remembers_60 rfl ?_
        refine zw_sipush 64 rfl dX11_remembers_61 rfl ?_
        refine zw_icmp_ge 97 67 rfl dX11_remembers_64 (by decide) (by omega) (by omega) (fun h_64 => ?_) (fun h_64 => ?_)
        · refine zw_aload_n 98 rfl dX11_remembers_97 rfl ?_
          refine zw_dup 99 rfl dX11_remembers_98 rfl ?_
          refine zw_geti 102 rfl dX11_remembers_99 fl_X11_163 (by first | assumption | exact zm_o0 | exact zm_o _ _ _ rfl) ?_
          rw [e1 C (by omega), ha]
          refine zw_iconst 103 rfl dX11_remembers_102 ?_
          refine zw_iadd 104 rfl dX11_remembers_103 ?_
          refine zw_puti 107 rfl dX11_remembers_104 fp_X11_163 (by first | assumption | exact zm_o0 | exact zm_o _ _ _ rfl) ?_
          refine zw_vret (st := []) dX11_remembers_107 rfl ⟨rfl, _, rfl, ?_, ?_⟩
          · rw [← hpt]; exact mrH_push hH1 hn h9 hP1 (zu_eq _ _ _ _) (by rw [zu_row _ _ (by omega)]; exact e2)
          · intro b j b1 b2; rw [zu_ne _ _ (by omega), e1 b b1]; exact hf b j b1 b2
        · omega
      · intro k hk ih σs e1 e2
        refine zw_iload_n 61 rfl dX11_remembers_60 rfl ?_
        refine zw_sipush 64 rfl dX11_remembers_61 rfl ?_
        refine zw_icmp_ge 97 67 rfl dX11_remembers_64 (by decide) (by omega) (by omega) (fun h_64 => ?_) (fun h_64 => ?_)
        · omega
        · refine zw_aload_n 68 rfl dX11_remembers_67 rfl ?_
          refine zw_getr 71 rfl dX11_remembers_68 fl_X11_41 (by first | assumption | exact zm_o0 | exact zm_o _ _ _ rfl) (by first | assumption | exact zm_f _ _ rfl) ?_
          refine zw_aload_n 72 rfl dX11_remembers_71 rfl ?_
          refine zw_geti 75 rfl dX11_remembers_72 fl_X11_163 (by first | assumption | exact zm_o0 | exact zm_o _ _ _ rfl) ?_
          rw [e1 C (by omega), ha]
          refine zw_bipush 77 rfl dX11_remembers_75 rfl ?_
          refine zw_imul 78 rfl dX11_remembers_77 ?_
          refine zw_sipush 81 rfl dX11_remembers_78 rfl ?_
          refine zw_imul 82 rfl dX11_remembers_81 ?_
          refine zw_iload_n 83 rfl dX11_remembers_82 rfl ?_
          refine zw_iadd 84 rfl dX11_remembers_83 ?_
          refine zw_aload_n 85 rfl dX11_remembers_84 rfl ?_
          refine zw_getr 88 rfl dX11_remembers_85 fl_X11_38 (by first | assumption | exact zm_o0 | exact zm_o _ _ _ rfl) (by first | assumption | exact zm_f _ _ rfl) ?_
          refine zw_iload_n 89 rfl dX11_remembers_88 rfl ?_
          refine zw_iald 90 rfl dX11_remembers_89 (by first | assumption | exact zm_o0 | exact zm_o _ _ _ rfl) (by omega) (by omega) ?_
          rw [e1 (C + 9) (by omega), Int.toNat_natCast]
          refine zw_iast 91 rfl dX11_remembers_90 (by first | assumption | exact zm_o0 | exact zm_o _ _ _ rfl) (by omega) (by omega) ?_
          refine zw_iinc 94 rfl dX11_remembers_91 (Nat.le_of_ble_eq_true rfl) rfl rfl ?_
          refine zw_goto 60 dX11_remembers_94 (by decide) ?_
          refine ih _ (fun b hb => ?_) ?_
          · rw [zu_row _ _ hb]; exact e1 b hb
          · rw [show ((n : Int) * 6 * 194 + k).toNat = n * 1164 + k by omega, zu_row2, e2]
            exact zcpy_s _ _ k 0 (n * 1164)
    exact key σ1 (fun _ _ => rfl) (by rw [zcpy_0])
  have tk : (P :: Hs).take 10 = P :: Hs.take 9 := rfl
  by_cases h10 : Hs.length = 10
  · have key : ∀ σs : zSt, (∀ b j, b ≠ C + 10 → ¬ (b = C ∧ j = 23) → σs b j = σ b j) → σs C 23 = 9 → σs (C + 10) = zcpy (σ (C + 10)) (σ (C + 10)) 0 1164 0 → zW G M_X11_remembers (fun r w' => r = none ∧ ∃ σ' : zSt, w' = (zmS C, σ', τ) ∧ mRem C σ σ' P Hs) 21 [some (.ref C), some (vi (0 : Nat))] [] (zmS C, σs, τ) := by
      refine zloop (n := 10476) (L := fun k => ∀ σs : zSt, (∀ b j, b ≠ C + 10 → ¬ (b = C ∧ j = 23) → σs b j = σ b j) → σs C 23 = 9 → σs (C + 10) = zcpy (σ (C + 10)) (σ (C + 10)) k 1164 0 → zW G M_X11_remembers (fun r w' => r = none ∧ ∃ σ' : zSt, w' = (zmS C, σ', τ) ∧ mRem C σ σ' P Hs) 21 [some (.ref C), some (vi (k : Nat))] [] (zmS C, σs, τ)) ?_ ?_
      · intro σs e1 e2 e3
        refine zw_iload_n 22 rfl dX11_remembers_21 rfl ?_
        refine zw_aload_n 23 rfl dX11_remembers_22 rfl ?_
        refine zw_geti 26 rfl dX11_remembers_23 fl_X11_163 (by first | assumption | exact zm_o0 | exact zm_o _ _ _ rfl) ?_
        rw [e2]
        refine zw_bipush 28 rfl dX11_remembers_26 rfl ?_
        refine zw_imul 29 rfl dX11_remembers_28 ?_
        refine zw_sipush 32 rfl dX11_remembers_29 rfl ?_
        refine zw_imul 33 rfl dX11_remembers_32 ?_
        refine zw_icmp_ge 58 36 rfl dX11_remembers_33 (by decide) (by omega) (by omega) (fun h_33 => ?_) (fun h_33 => ?_)
        · refine zw_iconst 59 rfl dX11_remembers_58 ?_
          refine zw_istore_n 60 rfl dX11_remembers_59 (Nat.le_of_ble_eq_true rfl) rfl ?_
          exact L2 σs 9 (Hs.take 9) (mrH_shift hH h10 e2 e3) (by rw [List.length_take]; omega) (Nat.le_refl _) tk.symm (fun b j b1 b2 => e1 b j b1 (fun q => b2 q.1 q.2))
        · omega
      · intro k hk ih σs e1 e2 e3
        refine zw_iload_n 22 rfl dX11_remembers_21 rfl ?_
        refine zw_aload_n 23 rfl dX11_remembers_22 rfl ?_
        refine zw_geti 26 rfl dX11_remembers_23 fl_X11_163 (by first | assumption | exact zm_o0 | exact zm_o _ _ _ rfl) ?_
        rw [e2]
        refine zw_bipush 28 rfl dX11_remembers_26 rfl ?_
        refine zw_imul 29 rfl dX11_remembers_28 ?_
        refine zw_sipush 32 rfl dX11_remembers_29 rfl ?_
        refine zw_imul 33 rfl dX11_remembers_32 ?_
        refine zw_icmp_ge 58 36 rfl dX11_remembers_33 (by decide) (by omega) (by omega) (fun h_33 => ?_) (fun h_33 => ?_)
        · omega
        · refine zw_aload_n 37 rfl dX11_remembers_36 rfl ?_
          refine zw_getr 40 rfl dX11_remembers_37 fl_X11_41 (by first | assumption | exact zm_o0 | exact zm_o _ _ _ rfl) (by first | assumption | exact zm_f _ _ rfl) ?_
          refine zw_iload_n 41 rfl dX11_remembers_40 rfl ?_
          refine zw_aload_n 42 rfl dX11_remembers_41 rfl ?_
          refine zw_getr 45 rfl dX11_remembers_42 fl_X11_41 (by first | assumption | exact zm_o0 | exact zm_o _ _ _ rfl) (by first | assumption | exact zm_f _ _ rfl) ?_
          refine zw_iload_n 46 rfl dX11_remembers_45 rfl ?_
          refine zw_sipush 49 rfl dX11_remembers_46 rfl ?_
          refine zw_iadd 50 rfl dX11_remembers_49 ?_
          refine zw_iald 51 rfl dX11_remembers_50 (by first | assumption | exact zm_o0 | exact zm_o _ _ _ rfl) (by omega) (by omega) ?_
          rw [e3, show ((k : Int) + 1164).toNat = k + 1164 by omega, zcpy_out _ _ (Or.inr (by omega))]
          refine zw_iast 52 rfl dX11_remembers_51 (by first | assumption | exact zm_o0 | exact zm_o _ _ _ rfl) (by omega) (by omega) ?_
          refine zw_iinc 55 rfl dX11_remembers_52 (Nat.le_of_ble_eq_true rfl) rfl rfl ?_
          refine zw_goto 21 dX11_remembers_55 (by decide) ?_
          refine ih _ (fun b j b1 b2 => ?_) ?_ ?_
          · rw [zu_a _ _ b1]; exact e1 b j b1 b2
          · rw [zu_a _ _ (by omega)]; exact e2
          · have z := zcpy_s (σ (C + 10)) (σ (C + 10)) k 1164 0
            rw [Nat.zero_add] at z
            rw [zu_row2, e3, Int.toNat_natCast]
            exact z
    refine zw_aload_n 1 rfl dX11_remembers_0 rfl ?_
    refine zw_geti 4 rfl dX11_remembers_1 fl_X11_163 (by first | assumption | exact zm_o0 | exact zm_o _ _ _ rfl) ?_
    rw [hH.1, h10]
    refine zw_bipush 6 rfl dX11_remembers_4 rfl ?_
    refine zw_icmp_ne 58 9 rfl dX11_remembers_6 (by decide) (by omega) (by omega) (fun h_6 => ?_) (fun h_6 => ?_)
    · exact absurd rfl h_6
    · refine zw_aload_n 10 rfl dX11_remembers_9 rfl ?_
      refine zw_dup 11 rfl dX11_remembers_10 rfl ?_
      refine zw_geti 14 rfl dX11_remembers_11 fl_X11_163 (by first | assumption | exact zm_o0 | exact zm_o _ _ _ rfl) ?_
      rw [hH.1, h10]
      refine zw_iconst 15 rfl dX11_remembers_14 ?_
      refine zw_isub 16 rfl dX11_remembers_15 ?_
      refine zw_puti 19 rfl dX11_remembers_16 fp_X11_163 (by first | assumption | exact zm_o0 | exact zm_o _ _ _ rfl) ?_
      refine zw_iconst 20 rfl dX11_remembers_19 ?_
      refine zw_istore_n 21 rfl dX11_remembers_20 (Nat.le_of_ble_eq_true rfl) rfl ?_
      refine key _ (fun b j b1 b2 => zu_ne _ _ b2) ?_ ?_
      · exact zu_eq _ _ _ _
      · rw [zu_row _ _ (by omega), zcpy_0]
  refine zw_aload_n 1 rfl dX11_remembers_0 rfl ?_
  refine zw_geti 4 rfl dX11_remembers_1 fl_X11_163 (by first | assumption | exact zm_o0 | exact zm_o _ _ _ rfl) ?_
  rw [hH.1]
  refine zw_bipush 6 rfl dX11_remembers_4 rfl ?_
  refine zw_icmp_ne 58 9 rfl dX11_remembers_6 (by decide) (by omega) (by omega) (fun h_6 => ?_) (fun h_6 => ?_)
  · refine zw_iconst 59 rfl dX11_remembers_58 ?_
    refine zw_istore_n 60 rfl dX11_remembers_59 (Nat.le_of_ble_eq_true rfl) rfl ?_
    exact L2 σ Hs.length Hs hH rfl (by omega) (by rw [tk, List.take_of_length_le (by omega)]) (fun _ _ _ _ => rfl)
  · omega
def mNewP (C : Nat) (σ : zSt) (p : zPc) : Prop := mrPic (σ (C + 9)) 1164 p
theorem mrP_up {f f' : Nat → Int} {P : Nat → zPc} {p : zPc} {to : Nat} (hto : to < 6) (hP : mrP f 0 P) (hp : mrPic f 1164 p) (hf : f' = zcpy f f 194 1164 (194 * to)) : mrP f' 0 (va_up P to p) := by
  intro i hi
  by_cases e : i = to
  · subst e
    rw [va_up_self, hf]
    refine hp.mv (fun j hj => ?_)
    rw [Nat.zero_add, zcpy_in _ _ hj, Nat.add_comm j]
  · rw [va_up_ne _ _ e, hf]
    refine (hP i hi).mv (fun j hj => ?_)
    rw [zcpy_out _ _ (by omega)]
theorem m_becomes {G : zG} {C : Nat} {σ τ : zSt} {P : Nat → zPc} {Hs : List (Nat → zPc)} {p : zPc} {to : Int} (hP : mrP (σ (C + 9)) 0 P) (hH : mrH C σ Hs) (hp : mrPic (σ (C + 9)) 1164 p) (hto : aPl to) : zC G M_X11_becomes [.ref C, vi to] (zmS C, σ, τ) (fun r w' => r = none ∧ ∃ σ' : zSt, w' = (zmS C, σ', τ) ∧ mActed C σ σ' P Hs to.toNat p) := by
  refine zC_of 1 rfl (Nat.le_of_ble_eq_true rfl) ?_
  have key : ∀ σ1 : zSt, mRem C σ σ1 P Hs → zW G M_X11_becomes (fun r w' => r = none ∧ ∃ σ' : zSt, w' = (zmS C, σ', τ) ∧ mActed C σ σ' P Hs to.toNat p) 6 [some (.ref C), some (vi to), some (vi (0 : Nat))] [] (zmS C, σ1, τ) := by
    intro σ1 hR
    have e9 : σ1 (C + 9) = σ (C + 9) := funext fun j => hR.2 _ _ (by omega) (by omega)
    have key2 : ∀ σs : zSt, (∀ b, b ≠ C + 9 → σs b = σ1 b) → σs (C + 9) = zcpy (σ (C + 9)) (σ (C + 9)) 0 1164 (194 * to.toNat) → zW G M_X11_becomes (fun r w' => r = none ∧ ∃ σ' : zSt, w' = (zmS C, σ', τ) ∧ mActed C σ σ' P Hs to.toNat p) 6 [some (.ref C), some (vi to), some (vi (0 : Nat))] [] (zmS C, σs, τ) := by
      refine zloop (n := 194) (L := fun k => ∀ σs : zSt, (∀ b, b ≠ C + 9 → σs b = σ1 b) → σs (C + 9) = zcpy (σ (C + 9)) (σ (C + 9)) k 1164 (194 * to.toNat) → zW G M_X11_becomes (fun r w' => r = none ∧ ∃ σ' : zSt, w' = (zmS C, σ', τ) ∧ mActed C σ σ' P Hs to.toNat p) 6 [some (.ref C), some (vi to), some (vi (k : Nat))] [] (zmS C, σs, τ)) ?_ ?_
      · intro σs e1 e2
        refine zw_iload_n 7 rfl dX11_becomes_6 rfl ?_
        refine zw_sipush 10 rfl dX11_becomes_7 rfl ?_
        refine zw_icmp_ge 41 13 rfl dX11_becomes_10 (by decide) (by omega) (by omega) (fun h_10 => ?_) (fun h_10 => ?_)
        · refine zw_vret (st := []) dX11_becomes_41 rfl ⟨rfl, _, rfl, mrP_up (by omega) hP hp e2, hR.1.c (by rw [e1 _ (by omega)]) (fun j => by rw [e1 _ (by omega)]), fun b j b1 b2 b3 => ?_⟩
          rw [e1 b b1]; exact hR.2 b j b2 b3
        · omega
      · intro k hk ih σs e1 e2
        refine zw_iload_n 7 rfl dX11_becomes_6 rfl ?_
        refine zw_sipush 10 rfl dX11_becomes_7 rfl ?_
        refine zw_icmp_ge 41 13 rfl dX11_becomes_10 (by decide) (by omega) (by omega) (fun h_10 => ?_) (fun h_10 => ?_)
        · omega
        · refine zw_aload_n 14 rfl dX11_becomes_13 rfl ?_
          refine zw_getr 17 rfl dX11_becomes_14 fl_X11_38 (by first | assumption | exact zm_o0 | exact zm_o _ _ _ rfl) (by first | assumption | exact zm_f _ _ rfl) ?_
          refine zw_sipush 20 rfl dX11_becomes_17 rfl ?_
          refine zw_iload_n 21 rfl dX11_becomes_20 rfl ?_
          refine zw_imul 22 rfl dX11_becomes_21 ?_
          refine zw_iload_n 23 rfl dX11_becomes_22 rfl ?_
          refine zw_iadd 24 rfl dX11_becomes_23 ?_
          refine zw_aload_n 25 rfl dX11_becomes_24 rfl ?_
          refine zw_getr 28 rfl dX11_becomes_25 fl_X11_38 (by first | assumption | exact zm_o0 | exact zm_o _ _ _ rfl) (by first | assumption | exact zm_f _ _ rfl) ?_
          refine zw_sipush 31 rfl dX11_becomes_28 rfl ?_
          refine zw_iload_n 32 rfl dX11_becomes_31 rfl ?_
          refine zw_iadd 33 rfl dX11_becomes_32 ?_
          refine zw_iald 34 rfl dX11_becomes_33 (by first | assumption | exact zm_o0 | exact zm_o _ _ _ rfl) (by omega) (by omega) ?_
          rw [e2, show ((1164 : Int) + k).toNat = k + 1164 by omega, zcpy_out _ _ (Or.inr (by omega))]
          refine zw_iast 35 rfl dX11_becomes_34 (by first | assumption | exact zm_o0 | exact zm_o _ _ _ rfl) (by omega) (by omega) ?_
          refine zw_iinc 38 rfl dX11_becomes_35 (Nat.le_of_ble_eq_true rfl) rfl rfl ?_
          refine zw_goto 6 dX11_becomes_38 (by decide) ?_
          refine ih _ (fun b hb => ?_) ?_
          · rw [zu_row _ _ hb]; exact e1 b hb
          · rw [show (194 * to + (k : Int)).toNat = 194 * to.toNat + k by omega, zu_row2, e2, ← zcpy_s]
    exact key2 σ1 (fun _ _ => rfl) (by rw [zcpy_0, e9])
  refine zw_aload_n 1 rfl dX11_becomes_0 rfl ?_
  refine zw_cVr0 4 rfl dX11_becomes_1 kX11_becomes_179 (Nat.le_of_ble_eq_true rfl) (by first | assumption | exact zm_o0 | exact zm_o _ _ _ rfl) (m_remembers hP hH) ?_
  rintro _ _ ⟨rfl, σ1, rfl, hR⟩
  refine zw_iconst 5 rfl dX11_becomes_4 ?_
  refine zw_istore_n 6 rfl dX11_becomes_5 (Nat.le_of_ble_eq_true rfl) rfl ?_
  exact key σ1 hR
