/-- the four bytes of a number -/
def zbs (a : Int) : List Int := [zby a (2 ^ 24), zby a (2 ^ 16), zby a (2 ^ 8), zby a (2 ^ 0)]
def sp_feed (A : zA) (a b c d e : Int) : Int × zA := if 700 < ((aT A).length : Int) + 20 then (-1, A) else ((aT A).length + 20, (A.1, A.2.1, aT A ++ (zbs a ++ (zbs b ++ (zbs c ++ (zbs d ++ zbs e)))), A.2.2.2))
def xTI (B : Nat) (σ1 : zSt) (t : List Int) (σs : zSt) : Prop := (∀ b, b ≠ B + 29 → b ≠ B + 30 → σs b = σ1 b) ∧ xrT B σs t
theorem xTI.put {B : Nat} {σ1 σs : zSt} {t : List Int} {v : Int} (h : xTI B σ1 t σs) (hn : t.length < 700) (hv : 0 ≤ v ∧ v ≤ 255) : xTI B σ1 (t ++ [v]) (zu (zu σs (B + 30) t.length v) (B + 29) 1 (t.length + 1)) := by
  obtain ⟨a1, b1, b2, b3⟩ := h
  refine ⟨fun b h1 h2 => by rw [zu_row _ _ h1, zu_row _ _ h2]; exact a1 b h1 h2, by rw [zu_eq]; simp, by simp; omega, fun i hi => ?_⟩
  rw [zu_row _ _ (by omega)]
  simp only [List.length_append, List.length_cons, List.length_nil] at hi
  by_cases e : i = t.length
  · subst e; rw [zu_eq]; simpa using hv
  · rw [zu_k _ _ e]
    have : (t ++ [v]).getD i 0 = t.getD i 0 := by simp [List.getD, List.getElem?_append_left (show i < t.length by omega)]
    rw [this]
    exact b3 i (by omega)
theorem c_append {G : zG} {B : Nat} {σ τ : zSt} {a : Int} {σ1 : zSt} {t : List Int} (hl : xTI B σ1 t σ) (hn : t.length + 4 ≤ 700) (ha : -2147483648 ≤ a ∧ a ≤ 2147483647) : zC G M_X8_append [.ref (B + 29), vi a] (zxS B, σ, τ) (fun r w => r = none ∧ ∃ σ' : zSt, w = (zxS B, σ', τ) ∧ xTI B σ1 (t ++ zbs a) σ') := by
  refine zC_of 1 rfl (Nat.le_of_ble_eq_true rfl) ?_
  have step : ∀ (k : Nat) (s : Int) (t' : List Int) (σs : zSt), (((zI s).toUInt32 &&& Int32.toUInt32 31).toBitVec % 32).toNat = k → (k = 0 ∨ k = 8 ∨ k = 16 ∨ k = 24) → 0 ≤ s ∧ s ≤ 24 → xTI B σ1 t' σs → t'.length < 700 → (∀ σ' : zSt, xTI B σ1 (t' ++ [zby a (2 ^ k)]) σ' → zW G M_X8_append (fun r w => r = none ∧ ∃ σ' : zSt, w = (zxS B, σ', τ) ∧ xTI B σ1 (t ++ zbs a) σ') 3 [some (.ref (B + 29)), some (vi a), some (vi (s + -8))] [] (zxS B, σ', τ)) → zW G M_X8_append (fun r w => r = none ∧ ∃ σ' : zSt, w = (zxS B, σ', τ) ∧ xTI B σ1 (t ++ zbs a) σ') 3 [some (.ref (B + 29)), some (vi a), some (vi s)] [] (zxS B, σs, τ) := by
    intro k s t' σs hs hk hsr hl hn nx
    obtain ⟨l1, l2⟩ := id hl
    have e1 : ∀ v, zu σs (B + 30) t'.length v (B + 29) = σs (B + 29) := fun v => zu_row _ _ (by omega)
    have K43 : zW G M_X8_append (fun r w => r = none ∧ ∃ σ' : zSt, w = (zxS B, σ', τ) ∧ xTI B σ1 (t ++ zbs a) σ') 43 [some (.ref (B + 29)), some (vi a), some (vi s)] [] (zxS B, zu (zu σs (B + 30) t'.length (zby a (2 ^ k))) (B + 29) 1 (t'.length + 1), τ) := by
      refine zw_iinc 46 rfl dX8_append_43 (Nat.le_of_ble_eq_true rfl) rfl rfl ?_
      refine zw_goto 3 dX8_append_46 (by decide) ?_
      exact nx _ (hl.put hn (zby_r _ _))
    refine zw_iload_n 4 rfl dX8_append_3 rfl ?_
    refine zw_if_lt 49 7 rfl dX8_append_4 (by decide) (by omega) (fun h_4 => ?_) (fun h_4 => ?_)
    · omega
    · refine zw_aload_n 8 rfl dX8_append_7 rfl ?_
      refine zw_geti 11 rfl dX8_append_8 fl_X8_15 (by first | assumption | exact zx_o0 | exact zx_o _ _ _ rfl) ?_
      refine zw_sipush 14 rfl dX8_append_11 rfl ?_
      rw [l2.1]
      refine zw_icmp_ge 43 17 rfl dX8_append_14 (by decide) (by omega) (by omega) (fun h_14 => ?_) (fun h_14 => ?_)
      · first | (exfalso; omega) | exact K43
      · refine zw_aload_n 18 rfl dX8_append_17 rfl ?_
        refine zw_getr 21 rfl dX8_append_18 fl_X8_9 (by first | assumption | exact zx_o0 | exact zx_o _ _ _ rfl) (by first | assumption | exact zx_f0 _ _ rfl | exact zx_f _ _ _ rfl) ?_
        refine zw_aload_n 22 rfl dX8_append_21 rfl ?_
        refine zw_geti 25 rfl dX8_append_22 fl_X8_15 (by first | assumption | exact zx_o0 | exact zx_o _ _ _ rfl) ?_
        rw [l2.1]
        refine zw_iload_n 26 rfl dX8_append_25 rfl ?_
        refine zw_iload_n 27 rfl dX8_append_26 rfl ?_
        refine zw_iushr 28 rfl dX8_append_27 ?_
        refine zw_sipush 31 rfl dX8_append_28 rfl ?_
        refine zw_iand 32 rfl dX8_append_31 ?_
        rw [zby_u k s hs hk]
        refine zw_iast 33 rfl dX8_append_32 (by first | assumption | exact zx_o0 | exact zx_o _ _ _ rfl) (by omega) (by omega) ?_
        rw [Int.toNat_natCast]
        refine zw_aload_n 34 rfl dX8_append_33 rfl ?_
        refine zw_dup 35 rfl dX8_append_34 rfl ?_
        refine zw_geti 38 rfl dX8_append_35 fl_X8_15 (by first | assumption | exact zx_o0 | exact zx_o _ _ _ rfl) ?_
        rw [e1, l2.1]
        refine zw_iconst 39 rfl dX8_append_38 ?_
        refine zw_iadd 40 rfl dX8_append_39 ?_
        refine zw_puti 43 rfl dX8_append_40 fp_X8_15 (by first | assumption | exact zx_o0 | exact zx_o _ _ _ rfl) ?_
        first | (exfalso; omega) | exact K43
  have last : ∀ σs, xTI B σ1 (t ++ zbs a) σs → zW G M_X8_append (fun r w => r = none ∧ ∃ σ' : zSt, w = (zxS B, σ', τ) ∧ xTI B σ1 (t ++ zbs a) σ') 3 [some (.ref (B + 29)), some (vi a), some (vi (0 + -8))] [] (zxS B, σs, τ) := by
    intro σs hl
    refine zw_iload_n 4 rfl dX8_append_3 rfl ?_
    refine zw_if_lt 49 7 rfl dX8_append_4 (by decide) (by omega) (fun h_4 => ?_) (fun h_4 => ?_)
    · exact zw_vret (st := []) dX8_append_49 rfl ⟨rfl, _, rfl, hl⟩
    · omega
  refine zw_bipush 2 rfl dX8_append_0 rfl ?_
  refine zw_istore_n 3 rfl dX8_append_2 (Nat.le_of_ble_eq_true rfl) rfl ?_
  refine step 24 24 t _ rfl (by omega) (by omega) hl (by omega) (fun σ2 hl => ?_)
  refine step 16 (24 + -8) _ _ rfl (by omega) (by omega) hl (by simp; omega) (fun σ2 hl => ?_)
  refine step 8 (24 + -8 + -8) _ _ rfl (by omega) (by omega) hl (by simp; omega) (fun σ2 hl => ?_)
  refine step 0 (24 + -8 + -8 + -8) _ _ rfl (by omega) (by omega) hl (by simp; omega) (fun σ2 hl => ?_)
  exact last σ2 (by simpa [zbs] using hl)
theorem X_feed {G : zG} {B : Nat} {σ τ : zSt} {A : zA} {a b c d e : Int} (h : zxR B σ τ A) (ha : -2147483648 ≤ a ∧ a ≤ 2147483647) (hb1 : -2147483648 ≤ b ∧ b ≤ 2147483647) (hc : -2147483648 ≤ c ∧ c ≤ 2147483647) (hd : -2147483648 ≤ d ∧ d ≤ 2147483647) (he : -2147483648 ≤ e ∧ e ≤ 2147483647) : zC G M_X10_feed [.ref B, vi a, vi b, vi c, vi d, vi e] (zxS B, σ, τ) (xQ B (sp_feed A a b c d e)) := by
  have ht := h.2.2.1
  have hl0 : xTI B σ (aT A) σ := ⟨fun _ _ _ => rfl, ht⟩
  have hb := ht.2.1
  have hlen : ∀ a : Int, (zbs a).length = 4 := fun _ => rfl
  refine zC_of 0 rfl (Nat.le_of_ble_eq_true rfl) ?_
  refine zw_aload_n 1 rfl dX10_feed_0 rfl ?_
  refine zw_getr 4 rfl dX10_feed_1 fl_X10_33 (by first | assumption | exact zx_o0 | exact zx_o _ _ _ rfl) (by first | assumption | exact zx_f0 _ _ rfl | exact zx_f _ _ _ rfl) ?_
  refine zw_geti 7 rfl dX10_feed_4 fl_X10_93 (by first | assumption | exact zx_o0 | exact zx_o _ _ _ rfl) ?_
  refine zw_bipush 9 rfl dX10_feed_7 rfl ?_
  refine zw_iadd 10 rfl dX10_feed_9 ?_
  refine zw_sipush 13 rfl dX10_feed_10 rfl ?_
  rw [ht.1]
  refine zw_icmp_le 18 16 rfl dX10_feed_13 (by decide) (by omega) (by omega) (fun h_13 => ?_) (fun h_13 => ?_)
  · refine zw_aload_n 19 rfl dX10_feed_18 rfl ?_
    refine zw_getr 22 rfl dX10_feed_19 fl_X10_33 (by first | assumption | exact zx_o0 | exact zx_o _ _ _ rfl) (by first | assumption | exact zx_f0 _ _ rfl | exact zx_f _ _ _ rfl) ?_
    refine zw_iload_n 23 rfl dX10_feed_22 rfl ?_
    refine zw_cVr1 26 rfl dX10_feed_23 kX10_feed_97 (Nat.le_of_ble_eq_true rfl) (by first | assumption | exact zx_o0 | exact zx_o _ _ _ rfl) (c_append hl0 (by omega) ha) ?_
    rintro _ _ ⟨rfl, σ2, rfl, hl1⟩
    refine zw_aload_n 27 rfl dX10_feed_26 rfl ?_
    refine zw_getr 30 rfl dX10_feed_27 fl_X10_33 (by first | assumption | exact zx_o0 | exact zx_o _ _ _ rfl) (by first | assumption | exact zx_f0 _ _ rfl | exact zx_f _ _ _ rfl) ?_
    refine zw_iload_n 31 rfl dX10_feed_30 rfl ?_
    refine zw_cVr1 34 rfl dX10_feed_31 kX10_feed_97 (Nat.le_of_ble_eq_true rfl) (by first | assumption | exact zx_o0 | exact zx_o _ _ _ rfl) (c_append hl1 (by simp only [List.length_append, hlen]; omega) hb1) ?_
    rintro _ _ ⟨rfl, σ2, rfl, hl2⟩
    refine zw_aload_n 35 rfl dX10_feed_34 rfl ?_
    refine zw_getr 38 rfl dX10_feed_35 fl_X10_33 (by first | assumption | exact zx_o0 | exact zx_o _ _ _ rfl) (by first | assumption | exact zx_f0 _ _ rfl | exact zx_f _ _ _ rfl) ?_
    refine zw_iload_n 39 rfl dX10_feed_38 rfl ?_
    refine zw_cVr1 42 rfl dX10_feed_39 kX10_feed_97 (Nat.le_of_ble_eq_true rfl) (by first | assumption | exact zx_o0 | exact zx_o _ _ _ rfl) (c_append hl2 (by simp only [List.length_append, hlen]; omega) hc) ?_
    rintro _ _ ⟨rfl, σ2, rfl, hl3⟩
    refine zw_aload_n 43 rfl dX10_feed_42 rfl ?_
    refine zw_getr 46 rfl dX10_feed_43 fl_X10_33 (by first | assumption | exact zx_o0 | exact zx_o _ _ _ rfl) (by first | assumption | exact zx_f0 _ _ rfl | exact zx_f _ _ _ rfl) ?_
    refine zw_iload 48 rfl dX10_feed_46 rfl ?_
    refine zw_cVr1 51 rfl dX10_feed_48 kX10_feed_97 (Nat.le_of_ble_eq_true rfl) (by first | assumption | exact zx_o0 | exact zx_o _ _ _ rfl) (c_append hl3 (by simp only [List.length_append, hlen]; omega) hd) ?_
    rintro _ _ ⟨rfl, σ2, rfl, hl4⟩
    refine zw_aload_n 52 rfl dX10_feed_51 rfl ?_
    refine zw_getr 55 rfl dX10_feed_52 fl_X10_33 (by first | assumption | exact zx_o0 | exact zx_o _ _ _ rfl) (by first | assumption | exact zx_f0 _ _ rfl | exact zx_f _ _ _ rfl) ?_
    refine zw_iload 57 rfl dX10_feed_55 rfl ?_
    refine zw_cVr1 60 rfl dX10_feed_57 kX10_feed_97 (Nat.le_of_ble_eq_true rfl) (by first | assumption | exact zx_o0 | exact zx_o _ _ _ rfl) (c_append hl4 (by simp only [List.length_append, hlen]; omega) he) ?_
    rintro _ _ ⟨rfl, σ2, rfl, hl5⟩
    refine zw_aload_n 61 rfl dX10_feed_60 rfl ?_
    refine zw_getr 64 rfl dX10_feed_61 fl_X10_33 (by first | assumption | exact zx_o0 | exact zx_o _ _ _ rfl) (by first | assumption | exact zx_f0 _ _ rfl | exact zx_f _ _ _ rfl) ?_
    refine zw_geti 67 rfl dX10_feed_64 fl_X10_93 (by first | assumption | exact zx_o0 | exact zx_o _ _ _ rfl) ?_
    refine zw_iret (st := []) dX10_feed_67 rfl ?_
    rw [sp_feed, if_neg (by omega)]
    have hl6 : xTI B σ (aT A ++ (zbs a ++ (zbs b ++ (zbs c ++ (zbs d ++ zbs e))))) σ2 := by simpa [List.append_assoc] using hl5
    obtain ⟨o1, o2⟩ := hl6
    obtain ⟨a1, a2, a3, a4, a5, a6, a7⟩ := h
    refine ⟨?_, _, _, rfl, a1.c (fun b h1 h2 => o1 b (by omega) (by omega)), a2.c (fun b h1 h2 => o1 b (by omega) (by omega)), o2, by unfold xrE; rw [o1 B (by omega) (by omega)]; exact a4, a5.c (fun b h1 h2 => o1 b (by omega) (by omega)), a6.c (by rw [o1 (B + 47) (by omega) (by omega)]) (by rw [o1 (B + 47) (by omega) (by omega)]) (fun b h1 h2 => o1 b (by omega) (by omega)) rfl, by unfold xrI; rw [o1 B (by omega) (by omega), o1 (B + 73) (by omega) (by omega)]; exact a7⟩
    rw [o2.1]
    simp only [List.length_append, hlen]
    congr 2
  · refine zw_iconst 17 rfl dX10_feed_16 ?_
    exact zw_iret (st := []) dX10_feed_17 rfl (by rw [sp_feed, if_pos (by omega)]; exact ⟨rfl, _, _, rfl, h⟩)
