/-! ===== set, fill ===== -/
theorem xScr.bec {B a : Nat} {σ : zSt} : xScr B σ (zbec σ (B + 2) (B + 3) a (a + 1)) := ⟨fun k hk => by rw [zbec_o _ (by omega) (by omega)], fun b b1 b2 b3 => by rw [zbec_o _ (by omega) (by omega)]⟩
theorem xrPic.put {σ : zSt} {a : Nat} {p : zPc} {x y v : Int} (h : xrPic σ a p) (h0 : 0 < p.1) (hx : 0 ≤ x ∧ x < p.1) (hy : 0 ≤ y ∧ y < p.2.1) (hv : 0 ≤ v ∧ v ≤ 255) : xrPic (zu σ (a + 1) (y * p.1 + x).toNat v) a (aPut p x y v) := by
  have hwh := h.wh h0
  obtain ⟨g1, g2, g3⟩ := h
  obtain ⟨k1, k2, k3⟩ := g3 h0
  have r := zu_row σ (a := a + 1) (b := a) (k := (y * p.1 + x).toNat) v (by omega)
  refine ⟨by unfold zPW; rw [r]; exact g1, by rw [r]; exact g2, fun _ => ⟨by rw [r]; exact k1, k2, fun c d hc hd => ?_⟩⟩
  have i1 := zz_ix hx hy (by omega) (by omega)
  have hc : 0 ≤ c ∧ c < p.1 := hc
  have hd : 0 ≤ d ∧ d < p.2.1 := hd
  have i2 := zz_ix hc hd (by omega) (by omega)
  show zu σ (a + 1) (y * p.1 + x).toNat v (a + 1) (d * p.1 + c).toNat = (if c = x ∧ d = y then v else p.2.2 c d) ∧ 0 ≤ (if c = x ∧ d = y then v else p.2.2 c d) ∧ (if c = x ∧ d = y then v else p.2.2 c d) ≤ 255
  by_cases e : c = x ∧ d = y
  · rw [if_pos e, e.1, e.2]
    exact ⟨zu_eq _ _ _ _, hv⟩
  · rw [if_neg e, zu_k _ _ (fun q => e (zz_uniq h0 hc hx (by omega)))]
    exact k3 c d hc hd
theorem X_set {G : zG} {B : Nat} {σ τ : zSt} {A : zA} {p x y v : Int} (h : zxR B σ τ A) (hp : -2147483648 ≤ p ∧ p ≤ 2147483647) (hx : -2147483648 ≤ x ∧ x ≤ 2147483647) (hy : -2147483648 ≤ y ∧ y ≤ 2147483647) (hv : -2147483648 ≤ v ∧ v ≤ 2147483647) : zC G M_X10_set [.ref B, vi p, vi x, vi y, vi v] (zxS B, σ, τ) (xQ B (sp_set A p x y v)) := by
  have hvr := hv
  clear hv
  refine zC_of 1 rfl (Nat.le_of_ble_eq_true rfl) ?_
  have J : ∀ u : Int, u = (if aDot A p x y then if 0 ≤ v ∧ v ≤ 255 then 0 else 2 else 1) → zW G M_X10_set (xQ B (sp_set A p x y v)) 28 [some (.ref B), some (vi p), some (vi x), some (vi y), some (vi v), none] [vi u, .ref B] (zxS B, σ, τ) := by
    intro u hv
    refine zw_cVi1 31 rfl dX10_set_28 kX10_set_105 (Nat.le_of_ble_eq_true rfl) (by first | assumption | exact zx_o0 | exact zx_o _ _ _ rfl) (c_refused (by rw [hv]; (repeat' split) <;> omega)) ?_
    refine zw_if_eqB 36 34 rfl dX10_set_31 (by decide) (fun h_31 => ?_) (fun h_31 => ?_)
    · have hc1 : aDot A p x y := Decidable.byContradiction fun q => by rw [if_neg q] at hv; (try split at hv) <;> omega
      rw [if_pos hc1] at hv
      have hc2 : 0 ≤ v ∧ v ≤ 255 := Decidable.byContradiction fun q => by rw [if_neg q] at hv; (try split at hv) <;> omega
      rw [if_pos hc2] at hv
      subst hv
      have hP1 := xScr.z (v := 0) |>.P h.1
      refine zw_aload_n 37 rfl dX10_set_36 rfl ?_
      refine zw_getr 40 rfl dX10_set_37 fl_X10_11 (by first | assumption | exact zx_o0 | exact zx_o _ _ _ rfl) (by first | assumption | exact zx_f0 _ _ rfl | exact zx_f _ _ _ rfl) ?_
      refine zw_iload_n 41 rfl dX10_set_40 rfl ?_
      refine zw_aald 42 rfl dX10_set_41 (by first | assumption | exact zx_o0 | exact zx_o _ _ _ rfl) (by omega) (by omega) (by first | assumption | exact zx_p6r (by omega)) ?_
      refine zw_iload_n 43 rfl dX10_set_42 rfl ?_
      refine zw_iload_n 44 rfl dX10_set_43 rfl ?_
      refine zw_cVi2 47 rfl dX10_set_44 kX10_set_174 (Nat.le_of_ble_eq_true rfl) (zx_p6 (by omega)).1 (c_shadeAt (zx_p6 (by omega)) (hP1 p.toNat (by omega)).1 hx hy) ?_
      rw [(hP1 p.toNat (by omega)).dot hc1.1.2 hc1.2.1 hc1.2.2]
      refine zw_istore 49 rfl dX10_set_47 (Nat.le_of_ble_eq_true rfl) rfl ?_
      refine zw_aload_n 50 rfl dX10_set_49 rfl ?_
      refine zw_getr 53 rfl dX10_set_50 fl_X10_16 (by first | assumption | exact zx_o0 | exact zx_o _ _ _ rfl) (by first | assumption | exact zx_f0 _ _ rfl | exact zx_f _ _ _ rfl) ?_
      refine zw_aload_n 54 rfl dX10_set_53 rfl ?_
      refine zw_getr 57 rfl dX10_set_54 fl_X10_11 (by first | assumption | exact zx_o0 | exact zx_o _ _ _ rfl) (by first | assumption | exact zx_f0 _ _ rfl | exact zx_f _ _ _ rfl) ?_
      refine zw_iload_n 58 rfl dX10_set_57 rfl ?_
      refine zw_aald 59 rfl dX10_set_58 (by first | assumption | exact zx_o0 | exact zx_o _ _ _ rfl) (by omega) (by omega) (by first | assumption | exact zx_p6r (by omega)) ?_
      refine zw_cVv1 62 rfl dX10_set_59 kX10_set_137 (Nat.le_of_ble_eq_true rfl) (by first | assumption | exact zx_o0 | exact zx_o _ _ _ rfl) (c_become zx_work (zx_p6 (by omega)) (by simp only [zpa]; omega) (by simp only [zpa]; omega)) ?_
      have hb : xrPic (zbec (zu σ B 17 0) (B + 2) (B + 3) (zpa B p.toNat) (zpa B p.toNat + 1)) (B + 2) (A.1 p.toNat) := (hP1 p.toNat (by omega)).bec
      refine zw_aload_n 63 rfl dX10_set_62 rfl ?_
      refine zw_getr 66 rfl dX10_set_63 fl_X10_16 (by first | assumption | exact zx_o0 | exact zx_o _ _ _ rfl) (by first | assumption | exact zx_f0 _ _ rfl | exact zx_f _ _ _ rfl) ?_
      refine zw_iload_n 67 rfl dX10_set_66 rfl ?_
      refine zw_iload_n 68 rfl dX10_set_67 rfl ?_
      refine zw_iload 70 rfl dX10_set_68 rfl ?_
      refine zw_cVv3 73 rfl dX10_set_70 kX10_set_184 (Nat.le_of_ble_eq_true rfl) (by first | assumption | exact zx_o0 | exact zx_o _ _ _ rfl) (c_putShade zx_work hb.1 hx hy) ?_
      have hwh := hb.wh hc1.1.2
      rw [if_pos (by rw [zHas, hwh.1.1, hwh.1.2]; exact hc1.2), hwh.1.1]
      have hput := hb.put hc1.1.2 hc1.2.1 hc1.2.2 hc2
      have hs2 : xScr B σ (zu (zbec (zu σ B 17 0) (B + 2) (B + 3) (zpa B p.toNat) (zpa B p.toNat + 1)) (B + 3) (y * (A.1 p.toNat).1 + x).toNat v) := (xScr.z.tr xScr.bec).tr ⟨fun k hk => by rw [zu_row _ _ (by omega)], fun b b1 b2 b3 => by rw [zu_row _ _ (by omega)]⟩
      refine zw_aload_n 74 rfl dX10_set_73 rfl ?_
      refine zw_iload_n 75 rfl dX10_set_74 rfl ?_
      refine zw_cVr1 78 rfl dX10_set_75 kX10_set_188 (Nat.le_of_ble_eq_true rfl) (by first | assumption | exact zx_o0 | exact zx_o _ _ _ rfl) (c_actOn ((hs2.P h.1)) (hs2.H h.2.1) hput hc1.1.1) ?_
      rintro _ _ ⟨rfl, σ2, rfl, hA⟩
      refine zw_iload 80 rfl dX10_set_78 rfl ?_
      exact zw_iret (st := []) dX10_set_80 rfl (xGood (σ := σ) (τ := τ) (by simp only [if_pos hc1, if_pos hc2]) rfl (h.act hs2 rfl (by rw [zu_row _ _ (by omega), zbec_o _ (by omega) (by omega), zu_eq]) hA (by omega)))
    · refine zw_iconst 35 rfl dX10_set_34 ?_
      subst hv
      exact zw_iret (st := []) dX10_set_35 rfl (xRef h h_31 (by (repeat' split) <;> omega))
  refine zw_aload_n 1 rfl dX10_set_0 rfl ?_
  refine zw_aload_n 2 rfl dX10_set_1 rfl ?_
  refine zw_iload_n 3 rfl dX10_set_2 rfl ?_
  refine zw_iload_n 4 rfl dX10_set_3 rfl ?_
  refine zw_iload_n 5 rfl dX10_set_4 rfl ?_
  refine zw_cVi3 8 rfl dX10_set_5 kX10_set_171 (Nat.le_of_ble_eq_true rfl) (by first | assumption | exact zx_o0 | exact zx_o _ _ _ rfl) (c_hasDot h.1 hp hx hy) ?_
  refine zw_if_neB 15 11 rfl dX10_set_8 (by decide) (fun h_8 => ?_) (fun h_8 => ?_)
  · refine zw_iload 17 rfl dX10_set_15 rfl ?_
    refine zw_cSi1 20 rfl dX10_set_17 kX10_set_178 (Nat.le_of_ble_eq_true rfl) (c_isShade hvr) ?_
    refine zw_if_neB 27 23 rfl dX10_set_20 (by decide) (fun h_20 => ?_) (fun h_20 => ?_)
    · refine zw_iconst 28 rfl dX10_set_27 ?_
      exact J _ (by simp only [if_pos h_8, if_pos h_20])
    · refine zw_iconst 24 rfl dX10_set_23 ?_
      refine zw_goto 28 dX10_set_24 (by decide) ?_
      exact J _ (by simp only [if_pos h_8, if_neg h_20])
  · refine zw_iconst 12 rfl dX10_set_11 ?_
    refine zw_goto 28 dX10_set_12 (by decide) ?_
    exact J _ (by simp only [if_neg h_8])
theorem X_fill {G : zG} {B : Nat} {σ τ : zSt} {A : zA} {to w hh v : Int} (h : zxR B σ τ A) (hto : -2147483648 ≤ to ∧ to ≤ 2147483647) (hw : -2147483648 ≤ w ∧ w ≤ 2147483647) (hhh : -2147483648 ≤ hh ∧ hh ≤ 2147483647) (hv : -2147483648 ≤ v ∧ v ≤ 2147483647) : zC G M_X10_fill [.ref B, vi to, vi w, vi hh, vi v] (zxS B, σ, τ) (xQ B (sp_fill A to w hh v)) := by
  have hvr := hv
  clear hv
  refine zC_of 1 rfl (Nat.le_of_ble_eq_true rfl) ?_
  have J : ∀ (u f : Int), u = (if aPl to then if (1 ≤ w ∧ w ≤ 16) ∧ 1 ≤ hh ∧ hh ≤ 12 then if 0 ≤ v ∧ v ≤ 255 then 0 else 2 else 2 else 1) → zW G M_X10_fill (xQ B (sp_fill A to w hh v)) 57 [some (.ref B), some (vi to), some (vi w), some (vi hh), some (vi v), some (vi f)] [vi u, .ref B] (zxS B, σ, τ) := by
    intro u f hv
    refine zw_cVi1 60 rfl dX10_fill_57 kX10_fill_105 (Nat.le_of_ble_eq_true rfl) (by first | assumption | exact zx_o0 | exact zx_o _ _ _ rfl) (c_refused (by rw [hv]; (repeat' split) <;> omega)) ?_
    refine zw_if_eqB 65 63 rfl dX10_fill_60 (by decide) (fun h_60 => ?_) (fun h_60 => ?_)
    · have hc1 : aPl to := Decidable.byContradiction fun q => by rw [if_neg q] at hv; (try split at hv) <;> omega
      rw [if_pos hc1] at hv
      have hc2 : (1 ≤ w ∧ w ≤ 16) ∧ 1 ≤ hh ∧ hh ≤ 12 := Decidable.byContradiction fun q => by rw [if_neg q] at hv; (try split at hv) <;> omega
      rw [if_pos hc2] at hv
      have hc3 : 0 ≤ v ∧ v ≤ 255 := Decidable.byContradiction fun q => by rw [if_neg q] at hv; (try split at hv) <;> omega
      rw [if_pos hc3] at hv
      subst hv
      refine zw_aload_n 66 rfl dX10_fill_65 rfl ?_
      refine zw_getr 69 rfl dX10_fill_66 fl_X10_16 (by first | assumption | exact zx_o0 | exact zx_o _ _ _ rfl) (by first | assumption | exact zx_f0 _ _ rfl | exact zx_f _ _ _ rfl) ?_
      refine zw_iload_n 70 rfl dX10_fill_69 rfl ?_
      refine zw_iload_n 71 rfl dX10_fill_70 rfl ?_
      refine zw_cVv2 74 rfl dX10_fill_71 kX10_fill_194 (Nat.le_of_ble_eq_true rfl) (by first | assumption | exact zx_o0 | exact zx_o _ _ _ rfl) (c_resize (zx_o 2 5 0 rfl) (by omega) (by omega)) ?_
      rw [zhold_in (by omega), zhold_in (by omega)]
      refine zw_aload_n 75 rfl dX10_fill_74 rfl ?_
      refine zw_getr 78 rfl dX10_fill_75 fl_X10_16 (by first | assumption | exact zx_o0 | exact zx_o _ _ _ rfl) (by first | assumption | exact zx_f0 _ _ rfl | exact zx_f _ _ _ rfl) ?_
      refine zw_getr 81 rfl dX10_fill_78 fl_X10_198 (by first | assumption | exact zx_o0 | exact zx_o _ _ _ rfl) (by first | assumption | exact zx_f0 _ _ rfl | exact zx_f _ _ _ rfl) ?_
      refine zw_iload 83 rfl dX10_fill_81 rfl ?_
      refine zw_cSv2 86 rfl dX10_fill_83 kX10_fill_201 (Nat.le_of_ble_eq_true rfl) (c_fillI (zx_o 3 12 192 rfl) (by omega)) ?_
      have hs2 : xScr B σ (zr (zu (zu (zu σ B 17 0) (B + 2) 1 w) (B + 2) 2 hh) (B + 3) (fun j => if j < 192 then v else zu (zu (zu σ B 17 0) (B + 2) 1 w) (B + 2) 2 hh (B + 3) j)) := xScr.z.tr ⟨fun k hk => by rw [zr_ne _ _ (by omega), zu_row _ _ (by omega), zu_row _ _ (by omega)], fun b b1 b2 b3 => by rw [zr_ne _ _ (by omega), zu_row _ _ (by omega), zu_row _ _ (by omega)]⟩
      have hpic : xrPic (zr (zu (zu (zu σ B 17 0) (B + 2) 1 w) (B + 2) 2 hh) (B + 3) (fun j => if j < 192 then v else zu (zu (zu σ B 17 0) (B + 2) 1 w) (B + 2) 2 hh (B + 3) j)) (B + 2) (w, hh, fun _ _ => v) := by
        have e1 : zr (zu (zu (zu σ B 17 0) (B + 2) 1 w) (B + 2) 2 hh) (B + 3) (fun j => if j < 192 then v else zu (zu (zu σ B 17 0) (B + 2) 1 w) (B + 2) 2 hh (B + 3) j) (B + 2) = zu (zu (zu σ B 17 0) (B + 2) 1 w) (B + 2) 2 hh (B + 2) := zr_ne _ _ (by omega)
        refine ⟨by unfold zPW; rw [e1, zu_eq, zu_k _ _ (by omega), zu_eq]; omega, by rw [e1, zu_k _ _ (by omega), zu_eq], fun _ => ⟨by rw [e1, zu_eq], hc2.2.1, fun x y hx hy => ⟨?_, hc3⟩⟩⟩
        have hx : 0 ≤ x ∧ x < w := hx
        have hy : 0 ≤ y ∧ y < hh := hy
        have i1 := zz_ix hx hy (by omega) (by omega)
        show zr _ (B + 3) _ (B + 3) (y * w + x).toNat = v
        rw [zr_eq, if_pos (by omega)]
      refine zw_aload_n 87 rfl dX10_fill_86 rfl ?_
      refine zw_iload_n 88 rfl dX10_fill_87 rfl ?_
      refine zw_cVr1 91 rfl dX10_fill_88 kX10_fill_188 (Nat.le_of_ble_eq_true rfl) (by first | assumption | exact zx_o0 | exact zx_o _ _ _ rfl) (c_actOn (hs2.P h.1) (hs2.H h.2.1) hpic hc1) ?_
      rintro _ _ ⟨rfl, σ2, rfl, hA⟩
      refine zw_iconst 92 rfl dX10_fill_91 ?_
      exact zw_zret (st := []) dX10_fill_92 rfl (by omega) (xGood (σ := σ) (τ := τ) (by simp only [if_pos hc1, if_pos hc2, if_pos hc3]) rfl (h.act hs2 rfl (by rw [zr_ne _ _ (by omega), zu_row _ _ (by omega), zu_row _ _ (by omega), zu_eq]) hA (by omega)))
    · refine zw_iconst 64 rfl dX10_fill_63 ?_
      subst hv
      exact zw_zret (st := []) dX10_fill_64 rfl (by omega) (xRef h h_60 (by (repeat' split) <;> omega))
  have K : ∀ f : Int, f = zb ((1 ≤ w ∧ w ≤ 16) ∧ 1 ≤ hh ∧ hh ≤ 12) → zW G M_X10_fill (xQ B (sp_fill A to w hh v)) 27 [some (.ref B), some (vi to), some (vi w), some (vi hh), some (vi v), some (vi f)] [] (zxS B, σ, τ) := by
    intro f hf
    subst hf
    refine zw_aload_n 28 rfl dX10_fill_27 rfl ?_
    refine zw_iload_n 29 rfl dX10_fill_28 rfl ?_
    refine zw_cSi1 32 rfl dX10_fill_29 kX10_fill_191 (Nat.le_of_ble_eq_true rfl) (c_isPlace hto) ?_
    refine zw_if_neB 39 35 rfl dX10_fill_32 (by decide) (fun h_32 => ?_) (fun h_32 => ?_)
    · refine zw_iload 41 rfl dX10_fill_39 rfl ?_
      refine zw_if_eqB 52 44 rfl dX10_fill_41 (by decide) (fun h_41 => ?_) (fun h_41 => ?_)
      · refine zw_iconst 53 rfl dX10_fill_52 ?_
        refine zw_goto 57 dX10_fill_53 (by decide) ?_
        exact J _ _ (by simp only [if_pos h_32, if_neg h_41])
      · refine zw_iload 46 rfl dX10_fill_44 rfl ?_
        refine zw_cSi1 49 rfl dX10_fill_46 kX10_fill_178 (Nat.le_of_ble_eq_true rfl) (c_isShade hvr) ?_
        refine zw_if_neB 56 52 rfl dX10_fill_49 (by decide) (fun h_49 => ?_) (fun h_49 => ?_)
        · refine zw_iconst 57 rfl dX10_fill_56 ?_
          exact J _ _ (by simp only [if_pos h_32, if_pos h_41, if_pos h_49])
        · refine zw_iconst 53 rfl dX10_fill_52 ?_
          refine zw_goto 57 dX10_fill_53 (by decide) ?_
          exact J _ _ (by simp only [if_pos h_32, if_pos h_41, if_neg h_49])
    · refine zw_iconst 36 rfl dX10_fill_35 ?_
      refine zw_goto 57 dX10_fill_36 (by decide) ?_
      exact J _ _ (by simp only [if_neg h_32])
  refine zw_iload_n 1 rfl dX10_fill_0 rfl ?_
  refine zw_iconst 2 rfl dX10_fill_1 ?_
  refine zw_bipush 4 rfl dX10_fill_2 rfl ?_
  refine zw_cSi3 7 rfl dX10_fill_4 kX10_fill_101 (Nat.le_of_ble_eq_true rfl) (c_within (by omega) (by omega) (by omega)) ?_
  refine zw_if_eqB 24 10 rfl dX10_fill_7 (by decide) (fun h_7 => ?_) (fun h_7 => ?_)
  · refine zw_iconst 25 rfl dX10_fill_24 ?_
    refine zw_istore 27 rfl dX10_fill_25 (Nat.le_of_ble_eq_true rfl) rfl ?_
    exact K _ (by first | exact zb_t ⟨h_7, h_17⟩ | exact zb_f (fun q => h_7 q.1) | exact zb_f (fun q => h_17 q.2))
  · refine zw_iload_n 11 rfl dX10_fill_10 rfl ?_
    refine zw_iconst 12 rfl dX10_fill_11 ?_
    refine zw_bipush 14 rfl dX10_fill_12 rfl ?_
    refine zw_cSi3 17 rfl dX10_fill_14 kX10_fill_101 (Nat.le_of_ble_eq_true rfl) (c_within (by omega) (by omega) (by omega)) ?_
    refine zw_if_eqB 24 20 rfl dX10_fill_17 (by decide) (fun h_17 => ?_) (fun h_17 => ?_)
    · refine zw_iconst 25 rfl dX10_fill_24 ?_
      refine zw_istore 27 rfl dX10_fill_25 (Nat.le_of_ble_eq_true rfl) rfl ?_
      exact K _ (by first | exact zb_t ⟨h_7, h_17⟩ | exact zb_f (fun q => h_7 q.1) | exact zb_f (fun q => h_17 q.2))
    · refine zw_iconst 21 rfl dX10_fill_20 ?_
      refine zw_goto 25 dX10_fill_21 (by decide) ?_
      refine zw_istore 27 rfl dX10_fill_25 (Nat.le_of_ble_eq_true rfl) rfl ?_
      exact K _ (by first | exact zb_t ⟨h_7, h_17⟩ | exact zb_f (fun q => h_7 q.1) | exact zb_f (fun q => h_17 q.2))
