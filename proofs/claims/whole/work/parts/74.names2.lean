theorem xNm.app {σ σ' : zSt} {a : Nat} {ns : List (List Int)} {l : List Int} (h : xNm σ a ns) (hl : l.length ≤ 16) (h4 : ns.length < 4) (hr : ∀ k, k < l.length → 0 ≤ l.getD k 0 ∧ l.getD k 0 ≤ 25) (e1 : σ' a 2 = ns.length + 1) (e2 : σ' (a + 2) ns.length = l.length) (e3 : ∀ p, p < ns.length → σ' (a + 2) p = σ (a + 2) p) (e4 : ∀ k, k < l.length → σ' (a + 1) (16 * ns.length + k) = l.getD k 0) (e5 : ∀ j, j < 16 * ns.length → σ' (a + 1) j = σ (a + 1) j) : xNm σ' a (ns ++ [l]) := by
  obtain ⟨n1, n2, n3⟩ := h
  refine ⟨by rw [e1]; simp, by simp; omega, fun p hp => ?_⟩
  simp only [List.length_append, List.length_cons, List.length_nil] at hp
  by_cases e : p = ns.length
  · have g : (ns ++ [l]).getD p [] = l := by rw [e, List.getD_eq_getElem?_getD]; simp
    rw [g, e]
    exact ⟨e2, hl, fun k hk => ⟨e4 k hk, hr k hk⟩⟩
  · have g : (ns ++ [l]).getD p [] = ns.getD p [] := by rw [List.getD_eq_getElem?_getD, List.getD_eq_getElem?_getD, List.getElem?_append_left (by omega)]
    rw [g]
    have t := n3 p (by omega)
    exact ⟨by rw [e3 p (by omega)]; exact t.1, t.2.1, fun k hk => by rw [e5 _ (by omega)]; exact t.2.2 k hk⟩
theorem c_nameAdd {G : zG} {B a s wl : Nat} {σ τ : zSt} {ns : List (List Int)} (ho : zNmS (zxS B) a) (hn : xNm σ a ns) (hs : xTS B σ s wl) (hw : 1 ≤ wl ∧ wl ≤ 16) (h4 : ns.length < 4) (ha : a + 2 < B + 29 ∨ B + 30 < a) : zC G M_X2_add [.ref a, .ref (B + 29)] (zxS B, σ, τ) (fun v w => v = none ∧ ∃ σ' : zSt, w = (zxS B, σ', τ) ∧ (∀ b, b < a ∨ a + 2 < b → σ' b = σ b) ∧ xNm σ' a (ns ++ [zWo (σ (B + 30)) s wl])) := by
  obtain ⟨o0, r0, r1, o1, o2⟩ := id ho
  obtain ⟨n1, n2, n3⟩ := id hn
  obtain ⟨h5, h6, h7, h8⟩ := id hs
  refine zC_of 1 rfl (Nat.le_of_ble_eq_true rfl) ?_
  have loop : ∀ (fu k : Nat) (σs : zSt), k ≤ wl → wl - k < fu → (∀ b, b ≠ a + 1 → b ≠ a + 2 → σs b = σ b) → σs (a + 2) ns.length = wl → (∀ p, p < ns.length → σs (a + 2) p = σ (a + 2) p) → (∀ j, j < k → σs (a + 1) (16 * ns.length + j) = σ (B + 30) (s + j) - 97) → (∀ j, j < 16 * ns.length → σs (a + 1) j = σ (a + 1) j) → zW G M_X2_add (fun v w => v = none ∧ ∃ σ' : zSt, w = (zxS B, σ', τ) ∧ (∀ b, b < a ∨ a + 2 < b → σ' b = σ b) ∧ xNm σ' a (ns ++ [zWo (σ (B + 30)) s wl])) 28 [some (.ref a), some (.ref (B + 29)), some (vi k)] [] (zxS B, σs, τ) := by
    intro fu
    induction fu with
    | zero => intro k σs h1 h2; omega
    | succ fu ih =>
      intro k σs h1 h2 f1 f2 f3 f4 f5
      have fa : σs a 2 = ns.length := by rw [f1 a (by omega) (by omega)]; exact n1
      have hs2 : xTS B σs s wl := ⟨by rw [f1 _ (by omega) (by omega)]; exact h5, by rw [f1 _ (by omega) (by omega)]; exact h6, h7, fun k hk => by rw [f1 (B + 30) (by omega) (by omega)]; exact h8 k hk⟩
      refine zw_iload_n 29 rfl dX2_add_28 rfl ?_
      refine zw_aload_n 30 rfl dX2_add_29 rfl ?_
      refine zw_getr 33 rfl dX2_add_30 fl_X2_15 (by first | assumption | exact zx_o0 | exact zx_o _ _ _ rfl) (by first | assumption | exact zx_f0 _ _ rfl | exact zx_f _ _ _ rfl) ?_
      refine zw_aload_n 34 rfl dX2_add_33 rfl ?_
      refine zw_geti 37 rfl dX2_add_34 fl_X2_18 (by first | assumption | exact zx_o0 | exact zx_o _ _ _ rfl) ?_
      rw [fa]
      refine zw_iald 38 rfl dX2_add_37 (by first | assumption | exact zx_o0 | exact zx_o _ _ _ rfl) (by omega) (by omega) ?_
      rw [Int.toNat_natCast, f2]
      refine zw_icmp_ge 66 41 rfl dX2_add_38 (by decide) (by omega) (by omega) (fun h_38 => ?_) (fun h_38 => ?_)
      · refine zw_aload_n 67 rfl dX2_add_66 rfl ?_
        refine zw_dup 68 rfl dX2_add_67 rfl ?_
        refine zw_geti 71 rfl dX2_add_68 fl_X2_18 (by first | assumption | exact zx_o0 | exact zx_o _ _ _ rfl) ?_
        rw [fa]
        refine zw_iconst 72 rfl dX2_add_71 ?_
        refine zw_iadd 73 rfl dX2_add_72 ?_
        refine zw_puti 76 rfl dX2_add_73 fp_X2_18 (by first | assumption | exact zx_o0 | exact zx_o _ _ _ rfl) ?_
        refine zw_vret (st := []) dX2_add_76 rfl ⟨rfl, _, rfl, fun b q => by rw [zu_row _ _ (by omega)]; exact f1 b (by omega) (by omega), hn.app (by rw [zWo_l]; exact hw.2) h4 (fun j hj => ?_) (zu_eq _ _ _ _) (by rw [zu_row _ _ (by omega), zWo_l]; exact f2) (fun p hp => by rw [zu_row _ _ (by omega)]; exact f3 p hp) (fun j hj => ?_) (fun j hj => by rw [zu_row _ _ (by omega)]; exact f5 j hj)⟩
        · rw [zWo_l] at hj; rw [zWo_g hj]; have := h8 j hj; omega
        · rw [zWo_l] at hj; rw [zu_row _ _ (by omega), zWo_g hj]; exact f4 j (by omega)
      · refine zw_aload_n 42 rfl dX2_add_41 rfl ?_
        refine zw_getr 45 rfl dX2_add_42 fl_X2_9 (by first | assumption | exact zx_o0 | exact zx_o _ _ _ rfl) (by first | assumption | exact zx_f0 _ _ rfl | exact zx_f _ _ _ rfl) ?_
        refine zw_aload_n 46 rfl dX2_add_45 rfl ?_
        refine zw_geti 49 rfl dX2_add_46 fl_X2_18 (by first | assumption | exact zx_o0 | exact zx_o _ _ _ rfl) ?_
        rw [fa]
        refine zw_bipush 51 rfl dX2_add_49 rfl ?_
        refine zw_imul 52 rfl dX2_add_51 ?_
        refine zw_iload_n 53 rfl dX2_add_52 rfl ?_
        refine zw_iadd 54 rfl dX2_add_53 ?_
        refine zw_aload_n 55 rfl dX2_add_54 rfl ?_
        refine zw_iload_n 56 rfl dX2_add_55 rfl ?_
        refine zw_cVi1 59 rfl dX2_add_56 kX2_add_39 (Nat.le_of_ble_eq_true rfl) (by first | assumption | exact zx_o0 | exact zx_o _ _ _ rfl) (c_wordLetter hs2 (by omega)) ?_
        rw [if_pos (by omega), f1 (B + 30) (by omega) (by omega), Int.toNat_natCast]
        refine zw_iast 60 rfl dX2_add_59 (by first | assumption | exact zx_o0 | exact zx_o _ _ _ rfl) (by omega) (by omega) ?_
        refine zw_iinc 63 rfl dX2_add_60 (Nat.le_of_ble_eq_true rfl) rfl rfl ?_
        refine zw_goto 28 dX2_add_63 (by decide) ?_
        rw [show ((ns.length : Int) * 16 + k).toNat = 16 * ns.length + k by omega]
        refine ih (k + 1) _ (by omega) (by omega) (fun b q1 q2 => by rw [zu_row _ _ q1]; exact f1 b q1 q2) (by rw [zu_row _ _ (by omega)]; exact f2) (fun p hp => by rw [zu_row _ _ (by omega)]; exact f3 p hp) (fun j hj => ?_) (fun j hj => by rw [zu_k _ _ (by omega)]; exact f5 j hj)
        by_cases e : j = k
        · rw [e, zu_eq]
        · rw [zu_k _ _ (by omega)]; exact f4 j (by omega)
  refine zw_aload_n 1 rfl dX2_add_0 rfl ?_
  refine zw_geti 4 rfl dX2_add_1 fl_X2_18 (by first | assumption | exact zx_o0 | exact zx_o _ _ _ rfl) ?_
  rw [n1]
  refine zw_iconst 5 rfl dX2_add_4 ?_
  refine zw_icmp_ge 76 8 rfl dX2_add_5 (by decide) (by omega) (by omega) (fun h_5 => ?_) (fun h_5 => ?_)
  · omega
  · refine zw_aload_n 9 rfl dX2_add_8 rfl ?_
    refine zw_getr 12 rfl dX2_add_9 fl_X2_15 (by first | assumption | exact zx_o0 | exact zx_o _ _ _ rfl) (by first | assumption | exact zx_f0 _ _ rfl | exact zx_f _ _ _ rfl) ?_
    refine zw_aload_n 13 rfl dX2_add_12 rfl ?_
    refine zw_geti 16 rfl dX2_add_13 fl_X2_18 (by first | assumption | exact zx_o0 | exact zx_o _ _ _ rfl) ?_
    rw [n1]
    refine zw_bipush 18 rfl dX2_add_16 rfl ?_
    refine zw_aload_n 19 rfl dX2_add_18 rfl ?_
    refine zw_geti 22 rfl dX2_add_19 fl_X2_28 (by first | assumption | exact zx_o0 | exact zx_o _ _ _ rfl) ?_
    rw [h6]
    refine zw_mmin 25 rfl dX2_add_22 kmX2_33 ⟨Nat.le_of_ble_eq_true rfl, Nat.le_of_ble_eq_true rfl⟩ (by omega) (by omega) ?_
    refine zw_iast 26 rfl dX2_add_25 (by first | assumption | exact zx_o0 | exact zx_o _ _ _ rfl) (by omega) (by omega) ?_
    refine zw_iconst 27 rfl dX2_add_26 ?_
    refine zw_istore_n 28 rfl dX2_add_27 (Nat.le_of_ble_eq_true rfl) rfl ?_
    rw [Int.toNat_natCast]
    refine loop (wl + 1) 0 _ (by omega) (by omega) (fun b q1 q2 => zu_row _ _ q2) (by rw [zu_eq]; split <;> omega) (fun p hp => zu_k _ _ (by omega)) (fun j hj => by omega) (fun j hj => by rw [zu_row _ _ (by omega)])
