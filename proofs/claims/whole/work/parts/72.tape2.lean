/-- the word at hand -/
def xTS (B : Nat) (σ : zSt) (s wl : Nat) : Prop := σ (B + 29) 5 = s ∧ σ (B + 29) 6 = wl ∧ s + wl ≤ 700 ∧ ∀ k, k < wl → 97 ≤ σ (B + 30) (s + k) ∧ σ (B + 30) (s + k) ≤ 122
def zWo (t : Nat → Int) (s wl : Nat) : List Int := (List.range wl).map (fun k => t (s + k) - 97)
theorem zWo_l (t : Nat → Int) (s wl : Nat) : (zWo t s wl).length = wl := by simp [zWo]
theorem zWo_g {t : Nat → Int} {s wl k : Nat} (hk : k < wl) : (zWo t s wl).getD k 0 = t (s + k) - 97 := by
  simp [zWo, List.getD_eq_getElem?_getD, hk]
theorem zWo_e {t : Nat → Int} {s wl : Nat} {l : List Int} (hl : l.length = wl) (h : ∀ k, k < wl → l.getD k 0 = t (s + k) - 97) : l = zWo t s wl := by
  apply List.ext_getElem?
  intro k
  by_cases hk : k < wl
  · have := h k hk
    rw [← zWo_g (t := t) (s := s) hk, List.getD_eq_getElem?_getD, List.getD_eq_getElem?_getD] at this
    rw [List.getElem?_eq_getElem (by omega), List.getElem?_eq_getElem (by rw [zWo_l]; exact hk)] at this ⊢
    simpa using this
  · rw [List.getElem?_eq_none (by omega), List.getElem?_eq_none (by rw [zWo_l]; omega)]
theorem c_beginText {G : zG} {B : Nat} {σ τ : zSt} {n m : Int} (hm : σ (B + 29) 1 = m) (hn : 0 ≤ n ∧ n ≤ m) (hm7 : m ≤ 700) : zC G M_X8_beginText [.ref (B + 29), vi n] (zxS B, σ, τ) (zR none (zxS B, zu (zu σ (B + 29) 2 n) (B + 29) 3 0, τ)) := by
  refine zC_of 0 rfl (Nat.le_of_ble_eq_true rfl) ?_
  refine zw_aload_n 1 rfl dX8_beginText_0 rfl ?_
  refine zw_iconst 2 rfl dX8_beginText_1 ?_
  refine zw_aload_n 3 rfl dX8_beginText_2 rfl ?_
  refine zw_geti 6 rfl dX8_beginText_3 fl_X8_15 (by first | assumption | exact zx_o0 | exact zx_o _ _ _ rfl) ?_
  rw [hm]
  refine zw_iload_n 7 rfl dX8_beginText_6 rfl ?_
  refine zw_mmin 10 rfl dX8_beginText_7 kmX8_19 ⟨Nat.le_of_ble_eq_true rfl, Nat.le_of_ble_eq_true rfl⟩ (by omega) (by omega) ?_
  refine zw_mmax 13 rfl dX8_beginText_10 kmX8_25 ⟨Nat.le_of_ble_eq_true rfl, Nat.le_of_ble_eq_true rfl⟩ (by omega) (by (repeat' split) <;> omega) ?_
  refine zw_puti 16 rfl dX8_beginText_13 fp_X8_28 (by first | assumption | exact zx_o0 | exact zx_o _ _ _ rfl) ?_
  refine zw_aload_n 17 rfl dX8_beginText_16 rfl ?_
  refine zw_iconst 18 rfl dX8_beginText_17 ?_
  refine zw_puti 21 rfl dX8_beginText_18 fp_X8_31 (by first | assumption | exact zx_o0 | exact zx_o _ _ _ rfl) ?_
  refine zw_vret (st := []) dX8_beginText_21 rfl ⟨rfl, ?_⟩
  congr 4
  (repeat' split) <;> omega
theorem c_wordLetter {G : zG} {B s wl : Nat} {σ τ : zSt} {k : Int} (hs : xTS B σ s wl) (hk : -2147483648 ≤ k ∧ k ≤ 2147483647) : zC G M_X8_wordLetter [.ref (B + 29), vi k] (zxS B, σ, τ) (zR (some (vi (if 0 ≤ k ∧ k < wl then σ (B + 30) (s + k.toNat) - 97 else -1))) (zxS B, σ, τ)) := by
  obtain ⟨h5, h6, h7, h8⟩ := hs
  refine zC_of 0 rfl (Nat.le_of_ble_eq_true rfl) ?_
  refine zw_iload_n 1 rfl dX8_wordLetter_0 rfl ?_
  refine zw_if_lt 29 4 rfl dX8_wordLetter_1 (by decide) (by omega) (fun h_1 => ?_) (fun h_1 => ?_)
  · refine zw_iconst 30 rfl dX8_wordLetter_29 ?_
    exact zw_iretR dX8_wordLetter_30 rfl (by first | rw [if_neg (by omega)] | (rw [if_pos (by omega), show ((s : Int) + k).toNat = s + k.toNat by omega])) rfl
  · refine zw_iload_n 5 rfl dX8_wordLetter_4 rfl ?_
    refine zw_aload_n 6 rfl dX8_wordLetter_5 rfl ?_
    refine zw_geti 9 rfl dX8_wordLetter_6 fl_X8_41 (by first | assumption | exact zx_o0 | exact zx_o _ _ _ rfl) ?_
    rw [h6]
    refine zw_icmp_ge 29 12 rfl dX8_wordLetter_9 (by decide) (by omega) (by omega) (fun h_9 => ?_) (fun h_9 => ?_)
    · refine zw_iconst 30 rfl dX8_wordLetter_29 ?_
      exact zw_iretR dX8_wordLetter_30 rfl (by first | rw [if_neg (by omega)] | (rw [if_pos (by omega), show ((s : Int) + k).toNat = s + k.toNat by omega])) rfl
    · refine zw_aload_n 13 rfl dX8_wordLetter_12 rfl ?_
      refine zw_getr 16 rfl dX8_wordLetter_13 fl_X8_9 (by first | assumption | exact zx_o0 | exact zx_o _ _ _ rfl) (by first | assumption | exact zx_f0 _ _ rfl | exact zx_f _ _ _ rfl) ?_
      refine zw_aload_n 17 rfl dX8_wordLetter_16 rfl ?_
      refine zw_geti 20 rfl dX8_wordLetter_17 fl_X8_34 (by first | assumption | exact zx_o0 | exact zx_o _ _ _ rfl) ?_
      rw [h5]
      refine zw_iload_n 21 rfl dX8_wordLetter_20 rfl ?_
      refine zw_iadd 22 rfl dX8_wordLetter_21 ?_
      refine zw_iald 23 rfl dX8_wordLetter_22 (by first | assumption | exact zx_o0 | exact zx_o _ _ _ rfl) (by omega) (by omega) ?_
      refine zw_bipush 25 rfl dX8_wordLetter_23 rfl ?_
      refine zw_isub 26 rfl dX8_wordLetter_25 ?_
      refine zw_goto 30 dX8_wordLetter_26 (by decide) ?_
      exact zw_iretR dX8_wordLetter_30 rfl (by first | rw [if_neg (by omega)] | (rw [if_pos (by omega), show ((s : Int) + k).toNat = s + k.toNat by omega])) rfl
theorem c_isPic {G : zG} {B s wl : Nat} {σ τ : zSt} {kd : Int} (hs : xTS B σ s wl) (h4 : σ (B + 29) 4 = kd) (hkd : 0 ≤ kd ∧ kd ≤ 4) : zC G M_X8_isPic [.ref (B + 29)] (zxS B, σ, τ) (zR (some (vi (zb (kd = 1 ∧ zWo (σ (B + 30)) s wl = [15, 8, 2])))) (zxS B, σ, τ)) := by
  have hz := hs
  obtain ⟨h5, h6, h7, h8⟩ := hs
  refine zC_of 0 rfl (Nat.le_of_ble_eq_true rfl) ?_
  have e3 : wl = 3 → zWo (σ (B + 30)) s wl = [σ (B + 30) s - 97, σ (B + 30) (s + 1) - 97, σ (B + 30) (s + 2) - 97] := fun e => by subst e; simp [zWo, List.range, List.range.loop]
  have no : ∀ pc, ¬ (kd = 1 ∧ zWo (σ (B + 30)) s wl = [15, 8, 2]) → (pc = 49) → zW G M_X8_isPic (zR (some (vi (zb (kd = 1 ∧ zWo (σ (B + 30)) s wl = [15, 8, 2])))) (zxS B, σ, τ)) 49 [some (.ref (B + 29))] [] (zxS B, σ, τ) := by
    intro pc q _
    refine zw_iconst 50 rfl dX8_isPic_49 ?_
    exact zw_zretR dX8_isPic_50 rfl (by omega) (zb_f q) rfl
  have h80 : 0 < wl → 97 ≤ σ (B + 30) s ∧ σ (B + 30) s ≤ 122 := h8 0
  have h81 := h8 1
  have h82 := h8 2
  refine zw_aload_n 1 rfl dX8_isPic_0 rfl ?_
  refine zw_geti 4 rfl dX8_isPic_1 fl_X8_44 (by first | assumption | exact zx_o0 | exact zx_o _ _ _ rfl) ?_
  rw [h4]
  refine zw_iconst 5 rfl dX8_isPic_4 ?_
  refine zw_icmp_ne 49 8 rfl dX8_isPic_5 (by decide) (by omega) (by omega) (fun h_5 => ?_) (fun h_5 => ?_)
  · first | exact no 49 (fun q => h_5 q.1) rfl | exact no 49 (fun q => h_13 (by have := congrArg List.length q.2; rw [zWo_l] at this; simp at this; omega)) rfl | exact no 49 (fun q => by rw [e3] at q; simp at q; omega) rfl
  · refine zw_aload_n 9 rfl dX8_isPic_8 rfl ?_
    refine zw_geti 12 rfl dX8_isPic_9 fl_X8_41 (by first | assumption | exact zx_o0 | exact zx_o _ _ _ rfl) ?_
    rw [h6]
    refine zw_iconst 13 rfl dX8_isPic_12 ?_
    refine zw_icmp_ne 49 16 rfl dX8_isPic_13 (by decide) (by omega) (by omega) (fun h_13 => ?_) (fun h_13 => ?_)
    · first | exact no 49 (fun q => h_5 q.1) rfl | exact no 49 (fun q => h_13 (by have := congrArg List.length q.2; rw [zWo_l] at this; simp at this; omega)) rfl | exact no 49 (fun q => by rw [e3] at q; simp at q; omega) rfl
    · have w3 : wl = 3 := by omega
      have e3 := e3 w3
      have h80 := h80 (by omega)
      have h81 := h81 (by omega)
      have h82 := h82 (by omega)
      refine zw_aload_n 17 rfl dX8_isPic_16 rfl ?_
      refine zw_iconst 18 rfl dX8_isPic_17 ?_
      refine zw_cVi1 21 rfl dX8_isPic_18 kX8_isPic_51 (Nat.le_of_ble_eq_true rfl) (by first | assumption | exact zx_o0 | exact zx_o _ _ _ rfl) (c_wordLetter hz (by omega)) ?_
      rw [if_pos (by omega), show s + Int.toNat 0 = s from rfl]
      refine zw_bipush 23 rfl dX8_isPic_21 rfl ?_
      refine zw_icmp_ne 49 26 rfl dX8_isPic_23 (by decide) (by omega) (by omega) (fun h_23 => ?_) (fun h_23 => ?_)
      · first | exact no 49 (fun q => h_5 q.1) rfl | exact no 49 (fun q => h_13 (by have := congrArg List.length q.2; rw [zWo_l] at this; simp at this; omega)) rfl | exact no 49 (fun q => by rw [e3] at q; simp at q; omega) rfl
      · refine zw_aload_n 27 rfl dX8_isPic_26 rfl ?_
        refine zw_iconst 28 rfl dX8_isPic_27 ?_
        refine zw_cVi1 31 rfl dX8_isPic_28 kX8_isPic_51 (Nat.le_of_ble_eq_true rfl) (by first | assumption | exact zx_o0 | exact zx_o _ _ _ rfl) (c_wordLetter hz (by omega)) ?_
        rw [if_pos (by omega), show s + Int.toNat 1 = s + 1 from rfl]
        refine zw_bipush 33 rfl dX8_isPic_31 rfl ?_
        refine zw_icmp_ne 49 36 rfl dX8_isPic_33 (by decide) (by omega) (by omega) (fun h_33 => ?_) (fun h_33 => ?_)
        · first | exact no 49 (fun q => h_5 q.1) rfl | exact no 49 (fun q => h_13 (by have := congrArg List.length q.2; rw [zWo_l] at this; simp at this; omega)) rfl | exact no 49 (fun q => by rw [e3] at q; simp at q; omega) rfl
        · refine zw_aload_n 37 rfl dX8_isPic_36 rfl ?_
          refine zw_iconst 38 rfl dX8_isPic_37 ?_
          refine zw_cVi1 41 rfl dX8_isPic_38 kX8_isPic_51 (Nat.le_of_ble_eq_true rfl) (by first | assumption | exact zx_o0 | exact zx_o _ _ _ rfl) (c_wordLetter hz (by omega)) ?_
          rw [if_pos (by omega), show s + Int.toNat 2 = s + 2 from rfl]
          refine zw_iconst 42 rfl dX8_isPic_41 ?_
          refine zw_icmp_ne 49 45 rfl dX8_isPic_42 (by decide) (by omega) (by omega) (fun h_42 => ?_) (fun h_42 => ?_)
          · first | exact no 49 (fun q => h_5 q.1) rfl | exact no 49 (fun q => h_13 (by have := congrArg List.length q.2; rw [zWo_l] at this; simp at this; omega)) rfl | exact no 49 (fun q => by rw [e3] at q; simp at q; omega) rfl
          · refine zw_iconst 46 rfl dX8_isPic_45 ?_
            refine zw_goto 50 dX8_isPic_46 (by decide) ?_
            exact zw_zretR dX8_isPic_50 rfl (by omega) (zb_t ⟨h_5, by rw [e3]; simp; omega⟩) rfl
