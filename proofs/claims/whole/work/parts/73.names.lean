/-! ===== names ===== -/
def zNmS (S : zSh) (a : Nat) : Prop := zo S a 2 0 ∧ S.2.2 a 0 = some (a + 1) ∧ S.2.2 a 1 = some (a + 2) ∧ zo S (a + 1) 12 64 ∧ zo S (a + 2) 12 4
theorem zx_nmR {B : Nat} : zNmS (zxS B) (B + 33) := ⟨zx_o 33 2 0 rfl, zx_f 33 0 34 rfl, zx_f 33 1 35 rfl, zx_o 34 12 64 rfl, zx_o 35 12 4 rfl⟩
theorem zx_nm {B : Nat} : zNmS (zxS B) (B + 44) := ⟨zx_o 44 2 0 rfl, zx_f 44 0 45 rfl, zx_f 44 1 46 rfl, zx_o 45 12 64 rfl, zx_o 46 12 4 rfl⟩
def xNm (σ : zSt) (a : Nat) (ns : List (List Int)) : Prop := σ a 2 = ns.length ∧ ns.length ≤ 4 ∧ ∀ p : Nat, p < ns.length → σ (a + 2) p = (ns.getD p []).length ∧ (ns.getD p []).length ≤ 16 ∧ ∀ k : Nat, k < (ns.getD p []).length → σ (a + 1) (16 * p + k) = (ns.getD p []).getD k 0 ∧ 0 ≤ (ns.getD p []).getD k 0 ∧ (ns.getD p []).getD k 0 ≤ 25
theorem xrN_m {B : Nat} {σ : zSt} {ns : List (List Int)} : xrN B σ ns ↔ xNm σ (B + 44) ns := Iff.rfl
theorem c_hasLetter {G : zG} {B a : Nat} {σ τ : zSt} {ns : List (List Int)} {p k : Int} (ho : zNmS (zxS B) a) (hn : xNm σ a ns) (hp : -2147483648 ≤ p ∧ p ≤ 2147483647) (hk : -2147483648 ≤ k ∧ k ≤ 2147483647) : zC G M_X2_hasLetter [.ref a, vi p, vi k] (zxS B, σ, τ) (zR (some (vi (zb ((0 ≤ p ∧ p < ns.length) ∧ 0 ≤ k ∧ k < (ns.getD p.toNat []).length)))) (zxS B, σ, τ)) := by
  obtain ⟨o0, r0, r1, o1, o2⟩ := id ho
  obtain ⟨n1, n2, n3⟩ := id hn
  refine zC_of 0 rfl (Nat.le_of_ble_eq_true rfl) ?_
  have no : ¬ ((0 ≤ p ∧ p < ns.length) ∧ 0 ≤ k ∧ k < (ns.getD p.toNat []).length) → zW G M_X2_hasLetter (zR (some (vi (zb ((0 ≤ p ∧ p < ns.length) ∧ 0 ≤ k ∧ k < (ns.getD p.toNat []).length)))) (zxS B, σ, τ)) 35 [some (.ref a), some (vi p), some (vi k)] [] (zxS B, σ, τ) := by
    intro q
    refine zw_iconst 36 rfl dX2_hasLetter_35 ?_
    exact zw_zretR dX2_hasLetter_36 rfl (by omega) (zb_f q) rfl
  have n4 := n3 p.toNat
  refine zw_iload_n 1 rfl dX2_hasLetter_0 rfl ?_
  refine zw_if_lt 35 4 rfl dX2_hasLetter_1 (by decide) (by omega) (fun h_1 => ?_) (fun h_1 => ?_)
  · first | exact no (by omega) | exact no (fun q => by omega)
  · refine zw_iload_n 5 rfl dX2_hasLetter_4 rfl ?_
    refine zw_aload_n 6 rfl dX2_hasLetter_5 rfl ?_
    refine zw_geti 9 rfl dX2_hasLetter_6 fl_X2_18 (by first | assumption | exact zx_o0 | exact zx_o _ _ _ rfl) ?_
    rw [n1]
    refine zw_icmp_ge 35 12 rfl dX2_hasLetter_9 (by decide) (by omega) (by omega) (fun h_9 => ?_) (fun h_9 => ?_)
    · first | exact no (by omega) | exact no (fun q => by omega)
    · refine zw_iload_n 13 rfl dX2_hasLetter_12 rfl ?_
      refine zw_iconst 14 rfl dX2_hasLetter_13 ?_
      refine zw_icmp_ge 35 17 rfl dX2_hasLetter_14 (by decide) (by omega) (by omega) (fun h_14 => ?_) (fun h_14 => ?_)
      · first | exact no (by omega) | exact no (fun q => by omega)
      · have n5 := n4 (by omega)
        refine zw_iload_n 18 rfl dX2_hasLetter_17 rfl ?_
        refine zw_if_lt 35 21 rfl dX2_hasLetter_18 (by decide) (by omega) (fun h_18 => ?_) (fun h_18 => ?_)
        · first | exact no (by omega) | exact no (fun q => by omega)
        · refine zw_iload_n 22 rfl dX2_hasLetter_21 rfl ?_
          refine zw_aload_n 23 rfl dX2_hasLetter_22 rfl ?_
          refine zw_getr 26 rfl dX2_hasLetter_23 fl_X2_15 (by first | assumption | exact zx_o0 | exact zx_o _ _ _ rfl) (by first | assumption | exact zx_f0 _ _ rfl | exact zx_f _ _ _ rfl) ?_
          refine zw_iload_n 27 rfl dX2_hasLetter_26 rfl ?_
          refine zw_iald 28 rfl dX2_hasLetter_27 (by first | assumption | exact zx_o0 | exact zx_o _ _ _ rfl) (by omega) (by omega) ?_
          rw [n5.1]
          refine zw_icmp_ge 35 31 rfl dX2_hasLetter_28 (by decide) (by omega) (by omega) (fun h_28 => ?_) (fun h_28 => ?_)
          · first | exact no (by omega) | exact no (fun q => by omega)
          · refine zw_iconst 32 rfl dX2_hasLetter_31 ?_
            refine zw_goto 36 dX2_hasLetter_32 (by decide) ?_
            exact zw_zretR dX2_hasLetter_36 rfl (by omega) (zb_t (by omega)) rfl
theorem c_letterOf {G : zG} {B a : Nat} {σ τ : zSt} {ns : List (List Int)} {p k : Int} (ho : zNmS (zxS B) a) (hn : xNm σ a ns) (hp : -2147483648 ≤ p ∧ p ≤ 2147483647) (hk : -2147483648 ≤ k ∧ k ≤ 2147483647) : zC G M_X2_letterOf [.ref a, vi p, vi k] (zxS B, σ, τ) (zR (some (vi (if (0 ≤ p ∧ p < ns.length) ∧ 0 ≤ k ∧ k < (ns.getD p.toNat []).length then (ns.getD p.toNat []).getD k.toNat 0 else -1))) (zxS B, σ, τ)) := by
  obtain ⟨o0, r0, r1, o1, o2⟩ := id ho
  obtain ⟨n1, n2, n3⟩ := id hn
  refine zC_of 0 rfl (Nat.le_of_ble_eq_true rfl) ?_
  refine zw_aload_n 1 rfl dX2_letterOf_0 rfl ?_
  refine zw_iload_n 2 rfl dX2_letterOf_1 rfl ?_
  refine zw_iload_n 3 rfl dX2_letterOf_2 rfl ?_
  refine zw_cVi2 6 rfl dX2_letterOf_3 kX2_letterOf_47 (Nat.le_of_ble_eq_true rfl) (by first | assumption | exact zx_o0 | exact zx_o _ _ _ rfl) (c_hasLetter ho hn hp hk) ?_
  refine zw_if_eqB 23 9 rfl dX2_letterOf_6 (by decide) (fun h_6 => ?_) (fun h_6 => ?_)
  · refine zw_iconst 24 rfl dX2_letterOf_23 ?_
    exact zw_iretR dX2_letterOf_24 rfl (by first | rw [if_pos h_6] | rw [if_neg h_6]) rfl
  · have n4 := n3 p.toNat (by omega)
    have n5 := n4.2.2 k.toNat (by omega)
    refine zw_aload_n 10 rfl dX2_letterOf_9 rfl ?_
    refine zw_getr 13 rfl dX2_letterOf_10 fl_X2_9 (by first | assumption | exact zx_o0 | exact zx_o _ _ _ rfl) (by first | assumption | exact zx_f0 _ _ rfl | exact zx_f _ _ _ rfl) ?_
    refine zw_iload_n 14 rfl dX2_letterOf_13 rfl ?_
    refine zw_bipush 16 rfl dX2_letterOf_14 rfl ?_
    refine zw_imul 17 rfl dX2_letterOf_16 ?_
    refine zw_iload_n 18 rfl dX2_letterOf_17 rfl ?_
    refine zw_iadd 19 rfl dX2_letterOf_18 ?_
    refine zw_iald 20 rfl dX2_letterOf_19 (by first | assumption | exact zx_o0 | exact zx_o _ _ _ rfl) (by omega) (by omega) ?_
    rw [show (p * 16 + k).toNat = 16 * p.toNat + k.toNat by omega, n5.1]
    refine zw_goto 24 dX2_letterOf_20 (by decide) ?_
    exact zw_iretR dX2_letterOf_24 rfl (by first | rw [if_pos h_6] | rw [if_neg h_6]) rfl
theorem c_isName {G : zG} {B a p s wl : Nat} {σ τ : zSt} {ns : List (List Int)} (ho : zNmS (zxS B) a) (hn : xNm σ a ns) (hs : xTS B σ s wl) (hp : p < ns.length) (hw : 1 ≤ wl ∧ wl ≤ 16) : zC G M_X2_isName [.ref a, vi p, .ref (B + 29)] (zxS B, σ, τ) (zR (some (vi (zb (ns.getD p [] = zWo (σ (B + 30)) s wl)))) (zxS B, σ, τ)) := by
  obtain ⟨o0, r0, r1, o1, o2⟩ := id ho
  obtain ⟨n1, n2, n3⟩ := id hn
  have n4 := n3 p hp
  have hs' := hs
  obtain ⟨h5, h6, h7, h8⟩ := hs
  refine zC_of 2 rfl (Nat.le_of_ble_eq_true rfl) ?_
  have hpp : (p : Int).toNat = p := Int.toNat_natCast p
  have no : ¬ (ns.getD p [] = zWo (σ (B + 30)) s wl) → zW G M_X2_isName (zR (some (vi (zb (ns.getD p [] = zWo (σ (B + 30)) s wl)))) (zxS B, σ, τ)) 25 [some (.ref a), some (vi p), some (.ref (B + 29)), some (vi wl), none] [] (zxS B, σ, τ) := by
    intro q
    refine zw_iconst 26 rfl dX2_isName_25 ?_
    exact zw_zretR dX2_isName_26 rfl (by omega) (zb_f q) rfl
  have loop : (ns.getD p []).length = wl → ∀ (fu k : Nat), k ≤ wl → wl - k < fu → (∀ j, j < k → (ns.getD p []).getD j 0 = σ (B + 30) (s + j) - 97) → zW G M_X2_isName (zR (some (vi (zb (ns.getD p [] = zWo (σ (B + 30)) s wl)))) (zxS B, σ, τ)) 30 [some (.ref a), some (vi p), some (.ref (B + 29)), some (vi wl), some (vi k)] [] (zxS B, σ, τ) := by
    intro hl fu
    induction fu with
    | zero => intro k h1 h2; omega
    | succ fu ih =>
      intro k h1 h2 hk
      have n5 := n4.2.2 k
      have h8k := h8 k
      refine zw_iload 32 rfl dX2_isName_30 rfl ?_
      refine zw_iload_n 33 rfl dX2_isName_32 rfl ?_
      refine zw_icmp_ge 65 36 rfl dX2_isName_33 (by decide) (by omega) (by omega) (fun h_33 => ?_) (fun h_33 => ?_)
      · refine zw_iconst 66 rfl dX2_isName_65 ?_
        exact zw_zretR dX2_isName_66 rfl (by omega) (zb_t (zWo_e hl (fun j hj => hk j (by omega)))) rfl
      · have n5 := n5 (by omega)
        have h8k := h8k (by omega)
        refine zw_aload_n 37 rfl dX2_isName_36 rfl ?_
        refine zw_getr 40 rfl dX2_isName_37 fl_X2_9 (by first | assumption | exact zx_o0 | exact zx_o _ _ _ rfl) (by first | assumption | exact zx_f0 _ _ rfl | exact zx_f _ _ _ rfl) ?_
        refine zw_iload_n 41 rfl dX2_isName_40 rfl ?_
        refine zw_bipush 43 rfl dX2_isName_41 rfl ?_
        refine zw_imul 44 rfl dX2_isName_43 ?_
        refine zw_iload 46 rfl dX2_isName_44 rfl ?_
        refine zw_iadd 47 rfl dX2_isName_46 ?_
        refine zw_iald 48 rfl dX2_isName_47 (by first | assumption | exact zx_o0 | exact zx_o _ _ _ rfl) (by omega) (by omega) ?_
        rw [show ((p : Int) * 16 + k).toNat = 16 * p + k by omega, n5.1]
        refine zw_aload_n 49 rfl dX2_isName_48 rfl ?_
        refine zw_iload 51 rfl dX2_isName_49 rfl ?_
        refine zw_cVi1 54 rfl dX2_isName_51 kX2_isName_39 (Nat.le_of_ble_eq_true rfl) (by first | assumption | exact zx_o0 | exact zx_o _ _ _ rfl) (c_wordLetter hs' (by omega)) ?_
        rw [if_pos (by omega), show (k : Int).toNat = k from Int.toNat_natCast k]
        refine zw_icmp_eq 59 57 rfl dX2_isName_54 (by decide) (by omega) (by omega) (fun h_54 => ?_) (fun h_54 => ?_)
        · refine zw_iinc 62 rfl dX2_isName_59 (Nat.le_of_ble_eq_true rfl) rfl rfl ?_
          refine zw_goto 30 dX2_isName_62 (by decide) ?_
          refine ih (k + 1) (by omega) (by omega) (fun j hj => ?_)
          by_cases e : j = k
          · rw [e]; exact h_54
          · exact hk j (by omega)
        · refine zw_iconst 58 rfl dX2_isName_57 ?_
          exact zw_zretR dX2_isName_58 rfl (by omega) (zb_f (fun q => h_54 (by rw [q, zWo_g (by omega)]))) rfl
  refine zw_aload_n 1 rfl dX2_isName_0 rfl ?_
  refine zw_geti 4 rfl dX2_isName_1 fl_X2_28 (by first | assumption | exact zx_o0 | exact zx_o _ _ _ rfl) ?_
  rw [h6]
  refine zw_istore_n 5 rfl dX2_isName_4 (Nat.le_of_ble_eq_true rfl) rfl ?_
  refine zw_aload_n 6 rfl dX2_isName_5 rfl ?_
  refine zw_iload_n 7 rfl dX2_isName_6 rfl ?_
  refine zw_iload_n 8 rfl dX2_isName_7 rfl ?_
  refine zw_cVi2 11 rfl dX2_isName_8 kX2_isName_47 (Nat.le_of_ble_eq_true rfl) (by first | assumption | exact zx_o0 | exact zx_o _ _ _ rfl) (c_hasLetter ho hn (by omega) (by omega)) ?_
  refine zw_if_neB 25 14 rfl dX2_isName_11 (by decide) (fun h_11 => ?_) (fun h_11 => ?_)
  · first | exact no (fun q => by rw [hpp, q, zWo_l] at h_11; omega) | exact no (fun q => by rw [hpp, q, zWo_l] at h_22; omega)
  · refine zw_aload_n 15 rfl dX2_isName_14 rfl ?_
    refine zw_iload_n 16 rfl dX2_isName_15 rfl ?_
    refine zw_iload_n 17 rfl dX2_isName_16 rfl ?_
    refine zw_iconst 18 rfl dX2_isName_17 ?_
    refine zw_isub 19 rfl dX2_isName_18 ?_
    refine zw_cVi2 22 rfl dX2_isName_19 kX2_isName_47 (Nat.le_of_ble_eq_true rfl) (by first | assumption | exact zx_o0 | exact zx_o _ _ _ rfl) (c_hasLetter ho hn (by omega) (by omega)) ?_
    refine zw_if_neB 27 25 rfl dX2_isName_22 (by decide) (fun h_22 => ?_) (fun h_22 => ?_)
    · refine zw_iconst 28 rfl dX2_isName_27 ?_
      refine zw_istore 30 rfl dX2_isName_28 (Nat.le_of_ble_eq_true rfl) rfl ?_
      rw [hpp] at h_11 h_22
      exact loop (by omega) (wl + 1) 0 (by omega) (by omega) (fun j hj => by omega)
    · first | exact no (fun q => by rw [hpp, q, zWo_l] at h_11; omega) | exact no (fun q => by rw [hpp, q, zWo_l] at h_22; omega)
theorem c_know {G : zG} {B a s wl : Nat} {σ τ : zSt} {ns : List (List Int)} (ho : zNmS (zxS B) a) (hn : xNm σ a ns) (hs : xTS B σ s wl) (hw : 1 ≤ wl ∧ wl ≤ 16) : zC G M_X2_know [.ref a, .ref (B + 29)] (zxS B, σ, τ) (zR (some (vi (zb (zWo (σ (B + 30)) s wl ∈ ns)))) (zxS B, σ, τ)) := by
  obtain ⟨o0, r0, r1, o1, o2⟩ := id ho
  obtain ⟨n1, n2, n3⟩ := id hn
  refine zC_of 1 rfl (Nat.le_of_ble_eq_true rfl) ?_
  have loop : ∀ (fu p : Nat), p ≤ ns.length → ns.length - p < fu → (∀ j, j < p → ns.getD j [] ≠ zWo (σ (B + 30)) s wl) → zW G M_X2_know (zR (some (vi (zb (zWo (σ (B + 30)) s wl ∈ ns)))) (zxS B, σ, τ)) 2 [some (.ref a), some (.ref (B + 29)), some (vi p)] [] (zxS B, σ, τ) := by
    intro fu
    induction fu with
    | zero => intro p h1 h2; omega
    | succ fu ih =>
      intro p h1 h2 hk
      refine zw_iload_n 3 rfl dX2_know_2 rfl ?_
      refine zw_aload_n 4 rfl dX2_know_3 rfl ?_
      refine zw_geti 7 rfl dX2_know_4 fl_X2_18 (by first | assumption | exact zx_o0 | exact zx_o _ _ _ rfl) ?_
      rw [n1]
      refine zw_icmp_ge 27 10 rfl dX2_know_7 (by decide) (by omega) (by omega) (fun h_7 => ?_) (fun h_7 => ?_)
      · refine zw_iconst 28 rfl dX2_know_27 ?_
        exact zw_zretR dX2_know_28 rfl (by omega) (zb_f (fun q => by obtain ⟨j, hj, e⟩ := List.getElem_of_mem q; exact hk j (by omega) (by rw [List.getD_eq_getElem?_getD, List.getElem?_eq_getElem hj]; exact e))) rfl
      · refine zw_aload_n 11 rfl dX2_know_10 rfl ?_
        refine zw_iload_n 12 rfl dX2_know_11 rfl ?_
        refine zw_aload_n 13 rfl dX2_know_12 rfl ?_
        refine zw_cVi2 16 rfl dX2_know_13 kX2_know_43 (Nat.le_of_ble_eq_true rfl) (by first | assumption | exact zx_o0 | exact zx_o _ _ _ rfl) (c_isName ho hn hs (by omega) hw) ?_
        refine zw_if_eqB 21 19 rfl dX2_know_16 (by decide) (fun h_16 => ?_) (fun h_16 => ?_)
        · refine zw_iinc 24 rfl dX2_know_21 (Nat.le_of_ble_eq_true rfl) rfl rfl ?_
          refine zw_goto 2 dX2_know_24 (by decide) ?_
          refine ih (p + 1) (by omega) (by omega) (fun j hj => ?_)
          by_cases e : j = p
          · rw [e]; exact h_16
          · exact hk j (by omega)
        · refine zw_iconst 20 rfl dX2_know_19 ?_
          exact zw_zretR dX2_know_20 rfl (by omega) (zb_t (by rw [← h_16, List.getD_eq_getElem?_getD, List.getElem?_eq_getElem (by omega)]; simp)) rfl
  refine zw_iconst 1 rfl dX2_know_0 ?_
  refine zw_istore_n 2 rfl dX2_know_1 (Nat.le_of_ble_eq_true rfl) rfl ?_
  exact loop (ns.length + 1) 0 (by omega) (by omega) (fun j hj => by omega)
