def pSt (p : zPc) (x y : Int) (l : List Int) : List Int := (l ++ (if x + 1 < p.1 then [zcode (p.2.2 x y) (p.2.2 (x + 1) y)] else [])) ++ (if y + 1 < p.2.1 then [zcode (p.2.2 x y) (p.2.2 x (y + 1))] else [])
abbrev aRP (p : zPc) : zRu := aRu (aPS 65536 p) 0 (aPL p).length
def xPF (B : Nat) (σ1 : zSt) (p : zPc) (σs : zSt) : Prop := (∀ b, (b < B + 71 ∨ B + 72 < b) → σs b = σ1 b) ∧ σs (B + 71) 1 = (aPL p).length ∧ σs (B + 71) 2 = (aRP p).2.1 ∧ σs (B + 71) 3 = (aRP p).2.2.1 ∧ σs (B + 71) 4 = (aRP p).2.2.2 ∧ (0 ≤ (aRP p).2.2.1 ∧ (aRP p).2.2.1 ≤ 65535) ∧ (aPL p).length ≤ 356
theorem aRu_v {g : Nat → Int} : ∀ {n : Nat}, (∀ k, k < n → 0 ≤ g k ∧ g k ≤ 65535) → 0 ≤ (aRu g 0 n).2.2.1 ∧ (aRu g 0 n).2.2.1 ≤ 65535
  | 0, _ => by simp [aRu, zfold]
  | n + 1, h => by
    have ih := aRu_v (n := n) (fun k hk => h k (by omega))
    have hn := h n (by omega)
    have e : aRu g 0 (n + 1) = aRuS g 0 n (aRu g 0 n) := rfl
    rw [e]
    generalize aRu g 0 n = s at ih
    unfold aRuS
    (repeat' split) <;> simp only <;> (repeat' split) <;> omega
theorem c_findPairs {G : zG} {B a : Nat} {σ1 τ : zSt} {p : zPc} (hp : zPic (zxS B) a (a + 1)) (h : xrPic σ1 a p) (h0 : 0 < p.1) (hn : B + 74 ≤ a ∧ a + 1 < B + 86) : zC G M_X4_findIn [.ref (B + 71), .ref a] (zxS B, σ1, τ) (fun r w => r = none ∧ ∃ σ' : zSt, w = (zxS B, σ', τ) ∧ xPF B σ1 p σ') := by
  have hwh := h.wh h0
  refine zC_of 2 rfl (Nat.le_of_ble_eq_true rfl) ?_
  have fin : ∀ (l : List Int) (σs : zSt), l = aPL p → l.length ≤ 356 → xPR B σ1 l σs → zW G M_X4_findIn (fun r w => r = none ∧ ∃ σ' : zSt, w = (zxS B, σ', τ) ∧ xPF B σ1 p σ') 95 [some (.ref (B + 71)), some (.ref a), some (vi p.2.1), none] [] (zxS B, σs, τ) := by
    intro l σs hl hlen hm
    have hr : ∀ k, k < l.length → 0 ≤ σs (B + 72) k ∧ σs (B + 72) k ≤ 65535 := fun k hk => by
      rw [hm.2.1 k hk]
      refine hm.2.2.2 _ ?_
      rw [List.getD_eq_getElem?_getD, List.getElem?_eq_getElem hk]
      simp
    refine zw_aload_n 96 rfl dX4_findIn_95 rfl ?_
    refine zw_cVr0 99 rfl dX4_findIn_96 kX4_findIn_39 (Nat.le_of_ble_eq_true rfl) (by first | assumption | exact zx_o0 | exact zx_o _ _ _ rfl) (c_pairSort (N := l.length) hlen hm.2.2.1 hr) ?_
    rintro _ _ ⟨rfl, σ2, rfl, hq1, hq2⟩
    refine zw_aload_n 100 rfl dX4_findIn_99 rfl ?_
    refine zw_cVr0 103 rfl dX4_findIn_100 kX4_findIn_42 (Nat.le_of_ble_eq_true rfl) (by first | assumption | exact zx_o0 | exact zx_o _ _ _ rfl) (c_runs (N := l.length) hlen (by rw [hq1.1 _ (by omega)]; exact hm.2.2.1) (hq1.2.2 hr)) ?_
    rintro _ _ ⟨rfl, σ3, rfl, hc⟩
    refine zw_vret (st := []) dX4_findIn_103 rfl ⟨rfl, _, rfl, ?_⟩
    have e : aRu (σ2 (B + 72)) 0 l.length = aRP p := by
      unfold aRP
      rw [← hl]
      refine aRu_c (fun k hk => ?_)
      rw [zsrt_k hq2 hk (M := 65536) (fun j hj => by have := hq1.2.2 hr j hj; omega)]
      unfold aPS
      rw [← hl]
      congr 1
      funext c
      rw [hq1.2.1]
      exact zct_c (fun j hj => hm.2.1 j hj) c
    have hv := aRu_v (hq1.2.2 hr)
    rw [e] at hc hv
    exact ⟨fun b hb => by rw [hc.1 b (by omega), hq1.1 b (by omega), hm.1 b hb], by rw [← hl]; exact hc.2.1, hc.2.2.1, hc.2.2.2.1, hc.2.2.2.2, hv, by rw [← hl]; exact hlen⟩
  generalize hF : (fun (x y : Int) (l : List Int) => pSt p x y l) = F
  have hF' : ∀ x y s, F x y s = pSt p x y s := fun x y s => by rw [← hF]
  have hE : aPL p = zfold (fun (j : Nat) => zfold (fun (i : Nat) => F (0 + i) (0 + j)) p.1.toNat) p.2.1.toNat [] := by subst hF; unfold aPL zwin; rw [Int.sub_zero, Int.sub_zero]; rfl
  generalize hO : (fun (j : Nat) => zfold (fun (i : Nat) => F (0 + i) (0 + j)) p.1.toNat) = O at hE
  have hO' : ∀ j c, O j c = zfold (fun (i : Nat) => F (0 + i) (0 + j)) p.1.toNat c := fun j c => by rw [← hO]
  have outer : ∀ (fu j : Nat) (l : List Int) (σs : zSt), (j : Int) ≤ p.2.1 → p.2.1 - j < fu → l = zfold O j [] → ((j : Int) < p.2.1 → l.length ≤ 31 * j) → l.length ≤ 356 → xPR B σ1 l σs → zW G M_X4_findIn (fun r w => r = none ∧ ∃ σ' : zSt, w = (zxS B, σ', τ) ∧ xPF B σ1 p σ') 7 [some (.ref (B + 71)), some (.ref a), some (vi j), none] [] (zxS B, σs, τ) := by
    intro fu
    induction fu with
    | zero => intro j l σs h1 h2; omega
    | succ fu ih =>
      intro j l σs h1 h2 hl hln hl3 hm
      generalize hI : (fun (i : Nat) => F (0 + i) (0 + j)) = I
      have hI' : ∀ i c, I i c = pSt p i j c := fun i c => by rw [← hI]; show F (0 + (i : Int)) (0 + (j : Int)) c = _; rw [Int.zero_add, Int.zero_add, hF']
      have inner : ∀ (fm i : Nat) (l' : List Int) (σs : zSt), (j : Int) < p.2.1 → (i : Int) ≤ p.1 → p.1 - i < fm → l' = zfold I i l → ((j : Int) + 1 < p.2.1 → l'.length ≤ 31 * j + 2 * i ∧ l'.length ≤ 31 * j + 31) → ((j : Int) + 1 = p.2.1 → l'.length ≤ 31 * j + i ∧ l'.length ≤ 31 * j + 15) → xPR B σ1 l' σs → zW G M_X4_findIn (fun r w => r = none ∧ ∃ σ' : zSt, w = (zxS B, σ', τ) ∧ xPF B σ1 p σ') 17 [some (.ref (B + 71)), some (.ref a), some (vi j), some (vi i)] [] (zxS B, σs, τ) := by
        intro fm
        induction fm with
        | zero => intro i l' σs h3 h4 h5; omega
        | succ fm ihm =>
          intro i l' σs h3 h4 h5 hl' b1 b2 hm'
          have pic : ∀ {l : List Int} {σs : zSt}, xPR B σ1 l σs → xrPic σs a p := fun q => h.c (q.1 _ (by omega)) (q.1 _ (by omega))
          have dt : ∀ {l : List Int} {σs : zSt}, xPR B σ1 l σs → ∀ x y : Int, 0 ≤ x ∧ x < p.1 → 0 ≤ y ∧ y < p.2.1 → zDot σs a (a + 1) x y = p.2.2 x y := fun q x y hx hy => (pic q).dot h0 hx hy
          have hw1 := ((pic hm').wh h0).1
          have dr : ∀ x y : Int, 0 ≤ x ∧ x < p.1 → 0 ≤ y ∧ y < p.2.1 → 0 ≤ p.2.2 x y ∧ p.2.2 x y ≤ 255 := fun x y hx hy => ((h.2.2 h0).2.2 x y hx hy).2
          have L83 : (i : Int) < p.1 → ∀ σs, xPR B σ1 (pSt p i j l') σs → zW G M_X4_findIn (fun r w => r = none ∧ ∃ σ' : zSt, w = (zxS B, σ', τ) ∧ xPF B σ1 p σ') 83 [some (.ref (B + 71)), some (.ref a), some (vi j), some (vi i)] [] (zxS B, σs, τ) := by
            intro hi σs hm
            have hlen : (pSt p i j l').length = l'.length + (if (i : Int) + 1 < p.1 then 1 else 0) + (if (j : Int) + 1 < p.2.1 then 1 else 0) := by
              unfold pSt; (repeat' split) <;> simp
            refine zw_iinc 86 rfl dX4_findIn_83 (Nat.le_of_ble_eq_true rfl) rfl rfl ?_
            refine zw_goto 17 dX4_findIn_86 (by decide) ?_
            exact ihm (i + 1) _ _ h3 (by omega) (by omega) (by simp only [zfold]; rw [hI', ← hl']) (by rw [hlen]; intro q; have := b1 q; (repeat' split) <;> omega) (by rw [hlen]; intro q; have := b2 q; (repeat' split) <;> omega) hm
          have L54 : (i : Int) < p.1 → ∀ σs, xPR B σ1 (l' ++ (if (i : Int) + 1 < p.1 then [zcode (p.2.2 i j) (p.2.2 (i + 1) j)] else [])) σs → zW G M_X4_findIn (fun r w => r = none ∧ ∃ σ' : zSt, w = (zxS B, σ', τ) ∧ xPF B σ1 p σ') 54 [some (.ref (B + 71)), some (.ref a), some (vi j), some (vi i)] [] (zxS B, σs, τ) := by
            intro hi σs hm
            have hw2 := ((pic hm).wh h0).1
            have hlen : (l' ++ (if (i : Int) + 1 < p.1 then [zcode (p.2.2 i j) (p.2.2 (i + 1) j)] else [])).length = l'.length + (if (i : Int) + 1 < p.1 then 1 else 0) := by split <;> simp
            refine zw_aload_n 55 rfl dX4_findIn_54 rfl ?_
            refine zw_iload_n 56 rfl dX4_findIn_55 rfl ?_
            refine zw_iload_n 57 rfl dX4_findIn_56 rfl ?_
            refine zw_iconst 58 rfl dX4_findIn_57 ?_
            refine zw_iadd 59 rfl dX4_findIn_58 ?_
            refine zw_cVi2 62 rfl dX4_findIn_59 kX4_findIn_27 (Nat.le_of_ble_eq_true rfl) hp.1 (c_contains hp (pic hm).1 (by omega) (by omega)) ?_
            refine zw_if_eqB 83 65 rfl dX4_findIn_62 (by decide) (fun h_62 => ?_) (fun h_62 => ?_)
            · first | exact L83 hi _ (by unfold pSt; rw [if_pos (c := (j : Int) + 1 < p.2.1) (by omega)]; exact hm2) | exact L83 hi _ (by unfold pSt; rw [if_neg (c := (j : Int) + 1 < p.2.1) (fun q => h_62 (by rw [zHas, hw2.1, hw2.2]; omega)), List.append_nil]; exact hm)
            · rw [zHas, hw2.1, hw2.2] at h_62
              refine zw_aload_n 66 rfl dX4_findIn_65 rfl ?_
              refine zw_aload_n 67 rfl dX4_findIn_66 rfl ?_
              refine zw_iload_n 68 rfl dX4_findIn_67 rfl ?_
              refine zw_iload_n 69 rfl dX4_findIn_68 rfl ?_
              refine zw_cVi2 72 rfl dX4_findIn_69 kX4_findIn_31 (Nat.le_of_ble_eq_true rfl) hp.1 (c_shadeAt hp (pic hm).1 (by omega) (by omega)) ?_
              rw [dt hm _ _ (by omega) (by omega)]
              refine zw_aload_n 73 rfl dX4_findIn_72 rfl ?_
              refine zw_iload_n 74 rfl dX4_findIn_73 rfl ?_
              refine zw_iload_n 75 rfl dX4_findIn_74 rfl ?_
              refine zw_iconst 76 rfl dX4_findIn_75 ?_
              refine zw_iadd 77 rfl dX4_findIn_76 ?_
              refine zw_cVi2 80 rfl dX4_findIn_77 kX4_findIn_31 (Nat.le_of_ble_eq_true rfl) hp.1 (c_shadeAt hp (pic hm).1 (by omega) (by omega)) ?_
              rw [dt hm _ _ (by omega) (by omega)]
              refine zw_cVr2 83 rfl dX4_findIn_80 kX4_findIn_35 (Nat.le_of_ble_eq_true rfl) (by first | assumption | exact zx_o0 | exact zx_o _ _ _ rfl) (c_pairAdd hm (by rw [hlen]; have := b1 (by omega); split <;> omega) (dr _ _ (by omega) (by omega)) (dr _ _ (by omega) (by omega))) ?_
              rintro _ _ ⟨rfl, σ2, rfl, hm2⟩
              first | exact L83 hi _ (by unfold pSt; rw [if_pos (c := (j : Int) + 1 < p.2.1) (by omega)]; exact hm2) | exact L83 hi _ (by unfold pSt; rw [if_neg (c := (j : Int) + 1 < p.2.1) (fun q => h_62 (by rw [zHas, hw2.1, hw2.2]; omega)), List.append_nil]; exact hm)
          refine zw_iload_n 18 rfl dX4_findIn_17 rfl ?_
          refine zw_aload_n 19 rfl dX4_findIn_18 rfl ?_
          refine zw_geti 22 rfl dX4_findIn_19 fl_X4_24 hp.1 ?_
          rw [hw1.1]
          refine zw_icmp_ge 89 25 rfl dX4_findIn_22 (by decide) (by omega) (by omega) (fun h_22 => ?_) (fun h_22 => ?_)
          · refine zw_iinc 92 rfl dX4_findIn_89 (Nat.le_of_ble_eq_true rfl) rfl rfl ?_
            refine zw_goto 7 dX4_findIn_92 (by decide) ?_
            refine zw_drop 3 ?_
            have e : zfold O (j + 1) [] = l' := by simp only [zfold]; rw [← hl, hO', hI, hl', show p.1.toNat = i by omega]
            exact ih (j + 1) l' _ (by omega) (by omega) e.symm (by intro q; have := b1 (by omega); omega) (by omega) hm'
          · refine zw_aload_n 26 rfl dX4_findIn_25 rfl ?_
            refine zw_iload_n 27 rfl dX4_findIn_26 rfl ?_
            refine zw_iconst 28 rfl dX4_findIn_27 ?_
            refine zw_iadd 29 rfl dX4_findIn_28 ?_
            refine zw_iload_n 30 rfl dX4_findIn_29 rfl ?_
            refine zw_cVi2 33 rfl dX4_findIn_30 kX4_findIn_27 (Nat.le_of_ble_eq_true rfl) hp.1 (c_contains hp (pic hm').1 (by omega) (by omega)) ?_
            refine zw_if_eqB 54 36 rfl dX4_findIn_33 (by decide) (fun h_33 => ?_) (fun h_33 => ?_)
            · first | exact L54 (by omega) _ (by rw [if_pos (c := (i : Int) + 1 < p.1) (by omega)]; exact hm2) | exact L54 (by omega) _ (by rw [if_neg (c := (i : Int) + 1 < p.1) (fun q => h_33 (by rw [zHas, hw1.1, hw1.2]; omega)), List.append_nil]; exact hm')
            · rw [zHas, hw1.1, hw1.2] at h_33
              have b3 : l'.length < 356 := by
                by_cases q : (j : Int) + 1 < p.2.1
                · have := b1 q; omega
                · have := b2 (by omega); omega
              refine zw_aload_n 37 rfl dX4_findIn_36 rfl ?_
              refine zw_aload_n 38 rfl dX4_findIn_37 rfl ?_
              refine zw_iload_n 39 rfl dX4_findIn_38 rfl ?_
              refine zw_iload_n 40 rfl dX4_findIn_39 rfl ?_
              refine zw_cVi2 43 rfl dX4_findIn_40 kX4_findIn_31 (Nat.le_of_ble_eq_true rfl) hp.1 (c_shadeAt hp (pic hm').1 (by omega) (by omega)) ?_
              rw [dt hm' _ _ (by omega) (by omega)]
              refine zw_aload_n 44 rfl dX4_findIn_43 rfl ?_
              refine zw_iload_n 45 rfl dX4_findIn_44 rfl ?_
              refine zw_iconst 46 rfl dX4_findIn_45 ?_
              refine zw_iadd 47 rfl dX4_findIn_46 ?_
              refine zw_iload_n 48 rfl dX4_findIn_47 rfl ?_
              refine zw_cVi2 51 rfl dX4_findIn_48 kX4_findIn_31 (Nat.le_of_ble_eq_true rfl) hp.1 (c_shadeAt hp (pic hm').1 (by omega) (by omega)) ?_
              rw [dt hm' _ _ (by omega) (by omega)]
              refine zw_cVr2 54 rfl dX4_findIn_51 kX4_findIn_35 (Nat.le_of_ble_eq_true rfl) (by first | assumption | exact zx_o0 | exact zx_o _ _ _ rfl) (c_pairAdd hm' (by omega) (dr _ _ (by omega) (by omega)) (dr _ _ (by omega) (by omega))) ?_
              rintro _ _ ⟨rfl, σ2, rfl, hm2⟩
              first | exact L54 (by omega) _ (by rw [if_pos (c := (i : Int) + 1 < p.1) (by omega)]; exact hm2) | exact L54 (by omega) _ (by rw [if_neg (c := (i : Int) + 1 < p.1) (fun q => h_33 (by rw [zHas, hw1.1, hw1.2]; omega)), List.append_nil]; exact hm')
      have hpS : xrPic σs a p := h.c (hm.1 _ (by omega)) (hm.1 _ (by omega))
      refine zw_iload_n 8 rfl dX4_findIn_7 rfl ?_
      refine zw_aload_n 9 rfl dX4_findIn_8 rfl ?_
      refine zw_geti 12 rfl dX4_findIn_9 fl_X4_19 hp.1 ?_
      rw [(hpS.wh h0).1.2]
      refine zw_icmp_ge 95 15 rfl dX4_findIn_12 (by decide) (by omega) (by omega) (fun h_12 => ?_) (fun h_12 => ?_)
      · have q := fin l σs (by rw [hE, hl, show p.2.1.toNat = j by omega]) hl3 hm
        rw [show p.2.1 = (j : Int) by omega] at q
        exact q
      · refine zw_iconst 16 rfl dX4_findIn_15 ?_
        refine zw_istore_n 17 rfl dX4_findIn_16 (Nat.le_of_ble_eq_true rfl) rfl ?_
        exact inner (p.1.toNat + 1) 0 l _ (by omega) (by omega) (by omega) rfl (by omega) (by omega) hm
  refine zw_aload_n 1 rfl dX4_findIn_0 rfl ?_
  refine zw_iconst 2 rfl dX4_findIn_1 ?_
  refine zw_puti 5 rfl dX4_findIn_2 fp_X4_15 (by first | assumption | exact zx_o0 | exact zx_o _ _ _ rfl) ?_
  refine zw_iconst 6 rfl dX4_findIn_5 ?_
  refine zw_istore_n 7 rfl dX4_findIn_6 (Nat.le_of_ble_eq_true rfl) rfl ?_
  exact outer (p.2.1.toNat + 1) 0 [] _ (by omega) (by omega) rfl (by simp) (by simp) ⟨fun b hb => by rw [zu_row _ _ (by omega)], fun k hk => by simp at hk, by rw [zu_eq]; rfl, fun e he => by simp at he⟩
