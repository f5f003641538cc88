theorem zxR.ink {B : Nat} {σ1 σs τ : zSt} {A : zA} {l : List Int} (h : zxR B σ1 τ A) (hl : xWI B σ1 l σs) : zxR B σs τ (A.1, A.2.1, A.2.2.1, A.2.2.2.1, A.2.2.2.2.1, A.2.2.2.2.2.1, l) := by
  obtain ⟨a1, a2, a3, a4, a5, a6, a7⟩ := h
  obtain ⟨o1, o2, i1⟩ := hl
  refine ⟨a1.c (fun b h1 h2 => o1 b (by omega) (by omega)), a2.c (fun b h1 h2 => o1 b (by omega) (by omega)), a3.c (by rw [o1 (B + 29) (by omega) (by omega)]) (o1 (B + 30) (by omega) (by omega)), ⟨by rw [o2 17 (by omega)]; exact a4.1, by rw [o2 16 (by omega)]; exact a4.2.1, by rw [o2 15 (by omega)]; exact a4.2.2.1, a4.2.2.2⟩, a5.c (fun b h1 h2 => o1 b (by omega) (by omega)), a6.c (by rw [o1 (B + 47) (by omega) (by omega)]) (by rw [o1 (B + 47) (by omega) (by omega)]) (fun b h1 h2 => o1 b (by omega) (by omega)) rfl, i1⟩
theorem X_write {G : zG} {B : Nat} {σ τ : zSt} {A : zA} {of : Int} (h : zxR B σ τ A) (hof : -2147483648 ≤ of ∧ of ≤ 2147483647) : zC G M_X10_write [.ref B, vi of] (zxS B, σ, τ) (xQ B (sp_write A of)) := by
  refine zC_of 3 rfl (Nat.le_of_ble_eq_true rfl) ?_
  have body : aTold A of → zW G M_X10_write (xQ B (sp_write A of)) 22 [some (.ref B), some (vi of), none, none, none] [] (zxS B, zu σ B 17 0, τ) := by
    intro hc1
    have hP1 := (xScr.z (v := 0)).P h.p of.toNat (by omega)
    have hq6 := (zx_p6 (B := B) (i := of.toNat) (by omega))
    have hwh := hP1.wh hc1.2
    have hd := fun x y hx hy => ((hP1.2.2 hc1.2).2.2 x y hx hy).2
    have hset := h.set (xScr.z (v := 0)) (τ' := τ) rfl (zu_eq _ _ _ _) (by omega) (by omega)
    generalize hσ1 : zu σ B 17 0 = σ1 at *
    have hPs : ∀ l σs, xWI B σ1 l σs → xrPic σs (zpa B of.toNat) (A.1 of.toNat) := fun l σs q => hP1.c (q.1 _ (by simp only [zpa]; omega) (by simp only [zpa]; omega)) (q.1 _ (by simp only [zpa]; omega) (by simp only [zpa]; omega))
    generalize hO : (fun (j : Nat) (l : List Int) => aInkR (A.1 of.toNat) j (if 0 < j then l ++ [47] else l)) = O
    have hO' : ∀ j l, O j l = aInkR (A.1 of.toNat) j (if 0 < j then l ++ [47] else l) := fun j l => by rw [← hO]
    have hK : aInk (A.1 of.toNat) = zfold O (A.1 of.toNat).2.1.toNat [] := by subst hO; rfl
    have outer : ∀ (fu j : Nat) (σs : zSt), (j : Int) ≤ (A.1 of.toNat).2.1 → (A.1 of.toNat).2.1 - j < fu → xWI B σ1 (zfold O j []) σs → ((zfold O j []).length : Int) + (if j = 0 then 0 else 1) = j * ((A.1 of.toNat).1 + 1) → zW G M_X10_write (xQ B (sp_write A of)) 36 [some (.ref B), some (vi of), some (.ref (zpa B of.toNat)), some (vi j), none] [] (zxS B, σs, τ) := by
      intro fu
      induction fu with
      | zero => intro j σs h1 h2; omega
      | succ fu ih =>
        intro j σs h1 h2 hl hlen
        generalize hL : zfold O j [] = L at hl hlen
        generalize hI : (fun (i : Nat) (l : List Int) => l ++ [97 + znear ((A.1 of.toNat).2.2 i j) 17]) = I
        have hI' : ∀ i l, I i l = l ++ [97 + znear ((A.1 of.toNat).2.2 i j) 17] := fun i l => by rw [← hI]
        have hIl : ∀ n l, (zfold I n l).length = l.length + n := fun n l => by subst hI; exact aInkR_len _ _ n l
        have inner : ∀ (fm i : Nat) (L0 : List Int) (σs : zSt), (j : Int) < (A.1 of.toNat).2.1 → (i : Int) ≤ (A.1 of.toNat).1 → (A.1 of.toNat).1 - i < fm → L0 = (if 0 < j then L ++ [47] else L) → (L0.length : Int) = j * ((A.1 of.toNat).1 + 1) → xWI B σ1 (zfold I i L0) σs → zW G M_X10_write (xQ B (sp_write A of)) 57 [some (.ref B), some (vi of), some (.ref (zpa B of.toNat)), some (vi j), some (vi i)] [] (zxS B, σs, τ) := by
          intro fm
          induction fm with
          | zero => intro i L0 σs h3 h4 h5; omega
          | succ fm ihm =>
            intro i L0 σs h3 h4 h5 hL0 hlen0 hl
            have hp := hPs _ _ hl
            have g1 : (j : Int) * ((A.1 of.toNat).1 + 1) ≤ 11 * ((A.1 of.toNat).1 + 1) := Int.mul_le_mul_of_nonneg_right (by omega) (by omega)
            have g2 := hIl i L0
            refine zw_iload 59 rfl dX10_write_57 rfl ?_
            refine zw_aload_n 60 rfl dX10_write_59 rfl ?_
            refine zw_geti 63 rfl dX10_write_60 fl_X10_148 hq6.1 ?_
            rw [(hp.wh hc1.2).1.1]
            refine zw_icmp_ge 93 66 rfl dX10_write_63 (by decide) (by omega) (by omega) (fun h_63 => ?_) (fun h_63 => ?_)
            · refine zw_iinc 96 rfl dX10_write_93 (Nat.le_of_ble_eq_true rfl) rfl rfl ?_
              refine zw_goto 36 dX10_write_96 (by decide) ?_
              refine zw_drop 4 ?_
              have e : zfold O (j + 1) [] = zfold I i L0 := by
                simp only [zfold]; rw [hL, hO', ← hL0, aInkR, hI, show (A.1 of.toNat).1.toNat = i by omega]
              exact ih (j + 1) _ (by omega) (by omega) (by rw [e]; exact hl) (by rw [e, g2, if_neg (by omega)]; rw [show (((j + 1 : Nat) : Int)) = (j : Int) + 1 by omega, Int.add_mul, Int.one_mul]; omega)
            · refine zw_aload_n 67 rfl dX10_write_66 rfl ?_
              refine zw_bipush 69 rfl dX10_write_67 rfl ?_
              refine zw_aload_n 70 rfl dX10_write_69 rfl ?_
              refine zw_iload 72 rfl dX10_write_70 rfl ?_
              refine zw_iload_n 73 rfl dX10_write_72 rfl ?_
              refine zw_cVi2 76 rfl dX10_write_73 kX10_write_174 (Nat.le_of_ble_eq_true rfl) hq6.1 (c_shadeAt hq6 hp.1 (by omega) (by omega)) ?_
              rw [hp.dot hc1.2 (by omega) (by omega)]
              have hr := hd i j (by omega) (by omega)
              refine zw_i2l 77 rfl dX10_write_76 (by omega) ?_
              refine zw_ldc2_w 80 rfl dX10_write_77 kX10_389 ?_
              refine zw_cSi2 83 rfl dX10_write_80 kX10_write_305 (Nat.le_of_ble_eq_true rfl) (c_nearest (by omega) (by omega)) ?_
              refine zw_iadd 84 rfl dX10_write_83 ?_
              refine zw_cVr1 87 rfl dX10_write_84 kX10_write_386 (Nat.le_of_ble_eq_true rfl) (by first | assumption | exact zx_o0 | exact zx_o _ _ _ rfl) (c_writeByte hl (by omega)) ?_
              rintro _ _ ⟨rfl, σ2, rfl, hl2⟩
              refine zw_iinc 90 rfl dX10_write_87 (Nat.le_of_ble_eq_true rfl) rfl rfl ?_
              refine zw_goto 57 dX10_write_90 (by decide) ?_
              exact ihm (i + 1) L0 _ h3 (by omega) (by omega) hL0 hlen0 (by simp only [zfold]; rw [hI']; exact hl2)
        have G54 : ∀ (L0 : List Int) (σs : zSt), (j : Int) < (A.1 of.toNat).2.1 → L0 = (if 0 < j then L ++ [47] else L) → xWI B σ1 L0 σs → zW G M_X10_write (xQ B (sp_write A of)) 54 [some (.ref B), some (vi of), some (.ref (zpa B of.toNat)), some (vi j), none] [] (zxS B, σs, τ) := by
          intro L0 σs h3 hL0 hl
          refine zw_iconst 55 rfl dX10_write_54 ?_
          refine zw_istore 57 rfl dX10_write_55 (Nat.le_of_ble_eq_true rfl) rfl ?_
          refine inner ((A.1 of.toNat).1.toNat + 1) 0 L0 _ h3 (by omega) (by omega) hL0 ?_ hl
          rw [hL0]
          by_cases e : 0 < j
          · rw [if_pos e]; rw [if_neg (by omega)] at hlen; simp only [List.length_append, List.length_cons, List.length_nil]; omega
          · rw [if_neg e]; rw [if_pos (by omega)] at hlen; omega
        have g1 : (j : Int) * ((A.1 of.toNat).1 + 1) ≤ 12 * ((A.1 of.toNat).1 + 1) := Int.mul_le_mul_of_nonneg_right (by omega) (by omega)
        have g3 : (j : Int) < (A.1 of.toNat).2.1 → (j : Int) * ((A.1 of.toNat).1 + 1) ≤ 11 * ((A.1 of.toNat).1 + 1) := fun q => Int.mul_le_mul_of_nonneg_right (by omega) (by omega)
        refine zw_iload_n 37 rfl dX10_write_36 rfl ?_
        refine zw_aload_n 38 rfl dX10_write_37 rfl ?_
        refine zw_geti 41 rfl dX10_write_38 fl_X10_151 hq6.1 ?_
        rw [((hPs _ _ hl).wh hc1.2).1.2]
        refine zw_icmp_ge 99 44 rfl dX10_write_41 (by decide) (by omega) (by omega) (fun h_41 => ?_) (fun h_41 => ?_)
        · refine zw_aload_n 100 rfl dX10_write_99 rfl ?_
          refine zw_geti 103 rfl dX10_write_100 fl_X10_383 (by first | assumption | exact zx_o0 | exact zx_o _ _ _ rfl) ?_
          have hj : (A.1 of.toNat).2.1.toNat = j := by omega
          refine zw_iret (st := []) dX10_write_103 rfl (xGood (σ := σ) (τ := τ) (if_pos hc1) (by rw [hl.2.2.1, hK, hj, hL]) ?_)
          rw [hK, hj, hL]
          exact hset.ink hl
        · refine zw_iload_n 45 rfl dX10_write_44 rfl ?_
          refine zw_if_le 54 48 rfl dX10_write_45 (by decide) (by omega) (fun h_45 => ?_) (fun h_45 => ?_)
          · first | exact G54 _ _ (by omega) (by rw [if_pos (by omega)]) hl2 | exact G54 _ _ (by omega) (by rw [if_neg (by omega)]) hl
          · refine zw_aload_n 49 rfl dX10_write_48 rfl ?_
            refine zw_bipush 51 rfl dX10_write_49 rfl ?_
            refine zw_cVr1 54 rfl dX10_write_51 kX10_write_386 (Nat.le_of_ble_eq_true rfl) (by first | assumption | exact zx_o0 | exact zx_o _ _ _ rfl) (c_writeByte hl (by have := g3 (by omega); split at hlen <;> omega)) ?_
            rintro _ _ ⟨rfl, σ2, rfl, hl2⟩
            first | exact G54 _ _ (by omega) (by rw [if_pos (by omega)]) hl2 | exact G54 _ _ (by omega) (by rw [if_neg (by omega)]) hl
    have hs0 : xWI B σ1 [] (zu σ1 B 14 0) := ⟨fun b h1 h2 => zu_row _ _ h1, fun k hk => zu_k _ _ hk, by rw [xrI, zu_eq]; simp⟩
    refine zw_aload_n 23 rfl dX10_write_22 rfl ?_
    refine zw_getr 26 rfl dX10_write_23 fl_X10_11 (by first | assumption | exact zx_o0 | exact zx_o _ _ _ rfl) (by first | assumption | exact zx_f0 _ _ rfl | exact zx_f _ _ _ rfl) ?_
    refine zw_iload_n 27 rfl dX10_write_26 rfl ?_
    refine zw_aald 28 rfl dX10_write_27 (by first | assumption | exact zx_o0 | exact zx_o _ _ _ rfl) (by omega) (by omega) (by first | assumption | exact zx_p6r (by omega)) ?_
    refine zw_astore_n 29 rfl dX10_write_28 (Nat.le_of_ble_eq_true rfl) rfl ?_
    refine zw_aload_n 30 rfl dX10_write_29 rfl ?_
    refine zw_iconst 31 rfl dX10_write_30 ?_
    refine zw_puti 34 rfl dX10_write_31 fp_X10_383 (by first | assumption | exact zx_o0 | exact zx_o _ _ _ rfl) ?_
    refine zw_iconst 35 rfl dX10_write_34 ?_
    refine zw_istore_n 36 rfl dX10_write_35 (Nat.le_of_ble_eq_true rfl) rfl ?_
    exact outer ((A.1 of.toNat).2.1.toNat + 1) 0 _ (by omega) (by omega) hs0 (by simp [zfold])
  have J : ∀ v : Int, v = (if aTold A of then 0 else 1) → zW G M_X10_write (xQ B (sp_write A of)) 14 [some (.ref B), some (vi of), none, none, none] [vi v, .ref B] (zxS B, σ, τ) := by
    intro v hv

    refine zw_cVi1 17 rfl dX10_write_14 kX10_write_105 (Nat.le_of_ble_eq_true rfl) (by first | assumption | exact zx_o0 | exact zx_o _ _ _ rfl) (c_refused (by rw [hv]; (repeat' split) <;> omega)) ?_
    refine zw_if_eqB 22 20 rfl dX10_write_17 (by decide) (fun h_17 => ?_) (fun h_17 => ?_)
    · have hc1 : aTold A of := Decidable.byContradiction fun q => by rw [if_neg q] at hv; (try split at hv) <;> omega
      rw [if_pos hc1] at hv
      subst hv
      exact body hc1
    · refine zw_iconst 21 rfl dX10_write_20 ?_
      subst hv
      exact zw_iret (st := []) dX10_write_21 rfl (xRef h h_17 (by (repeat' split) <;> omega))
  refine zw_aload_n 1 rfl dX10_write_0 rfl ?_
  refine zw_aload_n 2 rfl dX10_write_1 rfl ?_
  refine zw_iload_n 3 rfl dX10_write_2 rfl ?_
  refine zw_cVi1 6 rfl dX10_write_3 kX10_write_145 (Nat.le_of_ble_eq_true rfl) (by first | assumption | exact zx_o0 | exact zx_o _ _ _ rfl) (c_told h.p hof) ?_
  refine zw_if_eqB 13 9 rfl dX10_write_6 (by decide) (fun h_6 => ?_) (fun h_6 => ?_)
  · refine zw_iconst 14 rfl dX10_write_13 ?_
    exact J _ (by simp only [if_neg h_6])
  · refine zw_iconst 10 rfl dX10_write_9 ?_
    refine zw_goto 14 dX10_write_10 (by decide) ?_
    exact J _ (by simp only [if_pos h_6])
/-! ===== the tape ===== -/
def zby (a s : Int) : Int := a / s % 256
theorem zz_tn (a : Int) : (((zI a).toBitVec.toNat : Nat) : Int) = a % 4294967296 := by
  show (((Int32.ofInt a).toBitVec.toNat : Nat) : Int) = _
  rw [show (Int32.ofInt a).toBitVec = BitVec.ofInt 32 a from rfl, BitVec.toNat_ofInt]
  omega
theorem zz_and (x : Int32) : (x &&& zI 255).toInt = ((x.toBitVec.toNat % 256 : Nat) : Int) := by
  rw [pk_and x 8 (m := zI 255) rfl, nI_toInt (by omega)]
theorem zby_u {a : Int} (k : Nat) (s : Int) (hs : (((zI s).toUInt32 &&& Int32.toUInt32 31).toBitVec % 32).toNat = k) (hk : k = 0 ∨ k = 8 ∨ k = 16 ∨ k = 24) : (zI (((zI a).toUInt32 >>> ((zI s).toUInt32 &&& Int32.toUInt32 31)).toInt32.toInt) &&& zI 255).toInt = zby a (2 ^ k) := by
  rw [zI_self, zz_and, pk_ushr (zI a) (zI s) k hs]
  have h1 := zz_tn a
  generalize (zI a).toBitVec.toNat = n at *
  unfold zby
  rcases hk with rfl | rfl | rfl | rfl <;> simp <;> omega
theorem zby_s {a : Int} (ha : -2147483648 ≤ a ∧ a ≤ 2147483647) (k : Nat) (s : Int) (hs : ((zI s &&& 31).toBitVec.smod 32).toNat = k) (hk : k = 0 ∨ k = 8 ∨ k = 16 ∨ k = 24) : (zI ((zI a >>> (zI s &&& 31)).toInt) &&& zI 255).toInt = zby a (2 ^ k) := by
  rw [zI_self, zz_and]
  have h1 := pk_shr (zI a) (zI s &&& 31) k hs
  rw [zI_t ha, Int.shiftRight_eq_div_pow] at h1
  generalize zI a >>> (zI s &&& 31) = y at *
  have h2 : y = zI y.toInt := (zI_self y).symm
  have h3 := zz_tn y.toInt
  rw [← h2] at h3
  generalize y.toBitVec.toNat = n at *
  rw [h1] at h3
  unfold zby
  rcases hk with rfl | rfl | rfl | rfl <;> simp at * <;> omega
theorem zby_r (a s : Int) : 0 ≤ zby a s ∧ zby a s ≤ 255 := by unfold zby; omega
