/-! ===== smoothing in the model ===== -/
def mSm (C : Nat) (σ σ' : zSt) (s r : Int) : Prop := (∀ b j, ¬ (b = C ∧ 33 ≤ j ∧ j ≤ 36) → ¬ (b = C + 15 ∧ j = 1) → ¬ (b = C + 16 ∧ j = 1) → ¬ (b = C + 17 ∧ 3 ≤ j ∧ j < 6) → σ' b j = σ b j) ∧ σ' (C + 15) 1 = s ∧ σ' (C + 16) 1 = r
theorem mSm.s {C : Nat} {σ σ' : zSt} {s r : Int} (h : mSm C σ σ' s r) : mSc2 C σ σ' := fun b j hk => h.1 b j (by unfold mKey2 mKey at hk; omega) (by unfold mKey2 mKey at hk; omega) (by unfold mKey2 mKey at hk; omega) (by unfold mKey2 mKey at hk; omega)
theorem m_smooths {G : zG} {C : Nat} {σ τ : zSt} {of gu s r n : Int} {P Q : zPc} (hp : mPc C σ of P) (hq : mPc C σ gu Q) (hpo : of ≤ 5 ∨ of = 7) (hqo : gu ≤ 5 ∨ gu = 7) (e1 : Q.1 = P.1) (e2 : Q.2.1 = P.2.1) (hs : 1 ≤ s ∧ s ≤ 8) (hr : 8 ≤ r ∧ r ≤ 128) (hn : 0 ≤ n ∧ n ≤ 3) : zC G M_X11_smooths [.ref C, vi of, vi gu, vi s, vi r, vi n] (zmS C, σ, τ) (fun u w' => u = none ∧ ∃ σ' τ' : zSt, w' = (zmS C, σ', τ') ∧ mSc2 C σ σ' ∧ mScT C τ τ' ∧ mrPic (σ' (C + 9)) 1164 (aSmo P Q s r n)) := by
  have hw := hp.wh
  have hok := aSmG_ok (n := n) hw e1 e2 hs hr hn hp.dots hq.dots
  refine zC_of 2 rfl (Nat.le_of_ble_eq_true rfl) ?_
  have paint : ∀ σs τs : zSt, (mNw C σ P.1 P.1 P.2.1 (aSmo P Q s r n).2.2 mAt 0 0 σs ∧ mSR C σs 1 s r ∧ mScT C τ τs ∧ mGd C τs 1 (aSmG P Q s r n)) → zW G M_X11_smooths (fun u w' => u = none ∧ ∃ σ' τ' : zSt, w' = (zmS C, σ', τ') ∧ mSc2 C σ σ' ∧ mScT C τ τ' ∧ mrPic (σ' (C + 9)) 1164 (aSmo P Q s r n)) 65 [some (.ref C), some (vi of), some (vi gu), some (vi s), some (vi r), some (vi n), some (vi (0 : Nat)), none] [] (zmS C, σs, τs) := by
    refine zrows (w := P.1.toNat) (h := P.2.1.toNat) (O := fun j => ∀ σs τs : zSt, (mNw C σ P.1 P.1 P.2.1 (aSmo P Q s r n).2.2 mAt j 0 σs ∧ mSR C σs 1 s r ∧ mScT C τ τs ∧ mGd C τs 1 (aSmG P Q s r n)) → zW G M_X11_smooths (fun u w' => u = none ∧ ∃ σ' τ' : zSt, w' = (zmS C, σ', τ') ∧ mSc2 C σ σ' ∧ mScT C τ τ' ∧ mrPic (σ' (C + 9)) 1164 (aSmo P Q s r n)) 65 [some (.ref C), some (vi of), some (vi gu), some (vi s), some (vi r), some (vi n), some (vi j), none] [] (zmS C, σs, τs)) (N := fun j i => ∀ σs τs : zSt, (mNw C σ P.1 P.1 P.2.1 (aSmo P Q s r n).2.2 mAt j i σs ∧ mSR C σs 1 s r ∧ mScT C τ τs ∧ mGd C τs 1 (aSmG P Q s r n)) → zW G M_X11_smooths (fun u w' => u = none ∧ ∃ σ' τ' : zSt, w' = (zmS C, σ', τ') ∧ mSc2 C σ σ' ∧ mScT C τ τ' ∧ mrPic (σ' (C + 9)) 1164 (aSmo P Q s r n)) 78 [some (.ref C), some (vi of), some (vi gu), some (vi s), some (vi r), some (vi n), some (vi j), some (vi i)] [] (zmS C, σs, τs)) ?_ ?_ ?_ ?_
    · intro σs τs hI
      obtain ⟨hl, hsr, ht, hgd⟩ := hI
      have hps := hp.s hpo hl.1
      have hqs := hq.s hqo hl.1
      refine zw_iload 67 rfl dX11_smooths_65 rfl ?_
      refine zw_aload_n 68 rfl dX11_smooths_67 rfl ?_
      refine zw_iload_n 69 rfl dX11_smooths_68 rfl ?_
      refine zw_cVi1 72 rfl dX11_smooths_69 kX11_smooths_176 (Nat.le_of_ble_eq_true rfl) (by first | assumption | exact zm_o0 | exact zm_o _ _ _ rfl) (m_highP hps) ?_
      refine zw_icmp_ge 139 75 rfl dX11_smooths_72 (by decide) (by omega) (by omega) (fun h_72 => ?_) (fun h_72 => ?_)
      · exact zw_vret (st := []) dX11_smooths_139 rfl ⟨rfl, _, _, rfl, hl.1, ht, hl.pic (by omega) (by omega) (by omega) (fun x y hx hy => zShR_r hok ⟨hx, hy⟩)⟩
      · omega
    · intro j hj hN
      intro σs τs hI
      obtain ⟨hl, hsr, ht, hgd⟩ := hI
      have hps := hp.s hpo hl.1
      have hqs := hq.s hqo hl.1
      refine zw_iload 67 rfl dX11_smooths_65 rfl ?_
      refine zw_aload_n 68 rfl dX11_smooths_67 rfl ?_
      refine zw_iload_n 69 rfl dX11_smooths_68 rfl ?_
      refine zw_cVi1 72 rfl dX11_smooths_69 kX11_smooths_176 (Nat.le_of_ble_eq_true rfl) (by first | assumption | exact zm_o0 | exact zm_o _ _ _ rfl) (m_highP hps) ?_
      refine zw_icmp_ge 139 75 rfl dX11_smooths_72 (by decide) (by omega) (by omega) (fun h_72 => ?_) (fun h_72 => ?_)
      · omega
      · refine zw_iconst 76 rfl dX11_smooths_75 ?_
        refine zw_istore 78 rfl dX11_smooths_76 (Nat.le_of_ble_eq_true rfl) rfl ?_
        exact hN σs τs ⟨hl, hsr, ht, hgd⟩
    · intro j i hj hi hN
      intro σs τs hI
      obtain ⟨hl, hsr, ht, hgd⟩ := hI
      have hps := hp.s hpo hl.1
      have hqs := hq.s hqo hl.1
      have hv := hqs.d (x := i) (y := j) (by omega) (by omega)
      have hr1 := zRW_r hok i j (Q.2.2 i j)
      have hr2 := zRW_p hok (x := i) (y := j) (show aIn P i j by omega)
      have hr2 : 1 ≤ zRW (aSmG P Q s r n) i j (Q.2.2 i j) := hr2
      refine zw_iload 80 rfl dX11_smooths_78 rfl ?_
      refine zw_aload_n 81 rfl dX11_smooths_80 rfl ?_
      refine zw_iload_n 82 rfl dX11_smooths_81 rfl ?_
      refine zw_cVi1 85 rfl dX11_smooths_82 kX11_smooths_170 (Nat.le_of_ble_eq_true rfl) (by first | assumption | exact zm_o0 | exact zm_o _ _ _ rfl) (m_wideP hps) ?_
      refine zw_icmp_ge 133 88 rfl dX11_smooths_85 (by decide) (by omega) (by omega) (fun h_85 => ?_) (fun h_85 => ?_)
      · omega
      · refine zw_aload_n 89 rfl dX11_smooths_88 rfl ?_
        refine zw_iconst 90 rfl dX11_smooths_89 ?_
        refine zw_iload 92 rfl dX11_smooths_90 rfl ?_
        refine zw_iload 94 rfl dX11_smooths_92 rfl ?_
        refine zw_aload_n 95 rfl dX11_smooths_94 rfl ?_
        refine zw_iload_n 96 rfl dX11_smooths_95 rfl ?_
        refine zw_iload 98 rfl dX11_smooths_96 rfl ?_
        refine zw_iload 100 rfl dX11_smooths_98 rfl ?_
        refine zw_cVi3 103 rfl dX11_smooths_100 kX11_smooths_182 (Nat.le_of_ble_eq_true rfl) (by first | assumption | exact zm_o0 | exact zm_o _ _ _ rfl) (m_dotP hqs (by omega) (by omega)) ?_
        refine zw_cVr4 106 rfl dX11_smooths_103 kX11_smooths_288 (Nat.le_of_ble_eq_true rfl) (by first | assumption | exact zm_o0 | exact zm_o _ _ _ rfl) (m_reads (g := 1) (A := aSmG P Q s r n) hsr hgd rfl rfl (by omega) (by omega) hv) ?_
        rintro _ _ ⟨rfl, σ3, τ3, rfl, hf, hft, ha, hb⟩
        have hl3 := hl.fr (σ' := σ3) (fun b j hk => hf b j (by unfold mKey2 mKey at hk; omega)) (fun k => hf _ _ (by omega))
        refine zw_aload_n 107 rfl dX11_smooths_106 rfl ?_
        refine zw_bipush 109 rfl dX11_smooths_107 rfl ?_
        refine zw_iload 111 rfl dX11_smooths_109 rfl ?_
        refine zw_iload 113 rfl dX11_smooths_111 rfl ?_
        refine zw_aload_n 114 rfl dX11_smooths_113 rfl ?_
        refine zw_getl 117 rfl dX11_smooths_114 fl_X11_256 (by first | assumption | exact zm_o0 | exact zm_o _ _ _ rfl) ?_
        rw [ha]
        refine zw_aload_n 118 rfl dX11_smooths_117 rfl ?_
        refine zw_getl 121 rfl dX11_smooths_118 fl_X11_260 (by first | assumption | exact zm_o0 | exact zm_o _ _ _ rfl) ?_
        rw [hb]
        refine zw_cSi2 124 rfl dX11_smooths_121 kX11_smooths_295 (Nat.le_of_ble_eq_true rfl) (m_nearest (by omega) (by omega)) ?_
        refine zw_cVv4 127 rfl dX11_smooths_124 kX11_smooths_193 (Nat.le_of_ble_eq_true rfl) (by first | assumption | exact zm_o0 | exact zm_o _ _ _ rfl) (m_putsN (by omega) (by omega)) ?_
        refine zw_iinc 130 rfl dX11_smooths_127 (Nat.le_of_ble_eq_true rfl) rfl rfl ?_
        refine zw_goto 78 dX11_smooths_130 (by decide) ?_
        refine hN _ τ3 ⟨hl3.put1 (by omega) (by omega) (by omega) rfl rfl rfl, ⟨by omega, ?_, ?_, hs, hr⟩, fun j hj => ⟨by rw [hft _ _ (by omega)]; exact (ht j hj).1, by rw [hft _ _ (by omega)]; exact (ht j hj).2⟩, fun m hm => by rw [hft _ _ (by omega), hft _ _ (by omega)]; exact hgd m hm⟩
        · rw [zu_a _ _ (by omega), hf _ _ (by omega)]; exact hsr.2.1
        · rw [zu_a _ _ (by omega), hf _ _ (by omega)]; exact hsr.2.2.1
    · intro j hj hO
      intro σs τs hI
      obtain ⟨hl, hsr, ht, hgd⟩ := hI
      have hps := hp.s hpo hl.1
      have hqs := hq.s hqo hl.1
      refine zw_iload 80 rfl dX11_smooths_78 rfl ?_
      refine zw_aload_n 81 rfl dX11_smooths_80 rfl ?_
      refine zw_iload_n 82 rfl dX11_smooths_81 rfl ?_
      refine zw_cVi1 85 rfl dX11_smooths_82 kX11_smooths_170 (Nat.le_of_ble_eq_true rfl) (by first | assumption | exact zm_o0 | exact zm_o _ _ _ rfl) (m_wideP hps) ?_
      refine zw_icmp_ge 133 88 rfl dX11_smooths_85 (by decide) (by omega) (by omega) (fun h_85 => ?_) (fun h_85 => ?_)
      · refine zw_iinc 136 rfl dX11_smooths_133 (Nat.le_of_ble_eq_true rfl) rfl rfl ?_
        refine zw_goto 65 dX11_smooths_136 (by decide) ?_
        refine zw_drop 7 ?_
        exact hO σs τs ⟨hl.row, hsr, ht, hgd⟩
      · omega
  have blurs : ∀ σs τs : zSt, (mSm C σ σs s r ∧ mScT C τ τs ∧ mGd C τs 1 ((P, Q, s, r, (((0 : Nat) : Int), ((0 : Nat) : Int), ((0 : Nat) : Int))) : zGr)) → zW G M_X11_smooths (fun u w' => u = none ∧ ∃ σ' τ' : zSt, w' = (zmS C, σ', τ') ∧ mSc2 C σ σ' ∧ mScT C τ τ' ∧ mrPic (σ' (C + 9)) 1164 (aSmo P Q s r n)) 13 [some (.ref C), some (vi of), some (vi gu), some (vi s), some (vi r), some (vi n), some (vi (0 : Nat)), none] [] (zmS C, σs, τs) := by
    refine zrows (w := 3) (h := n.toNat) (O := fun j => ∀ σs τs : zSt, (mSm C σ σs s r ∧ mScT C τ τs ∧ mGd C τs 1 ((P, Q, s, r, ((j : Int), (j : Int), (j : Int))) : zGr)) → zW G M_X11_smooths (fun u w' => u = none ∧ ∃ σ' τ' : zSt, w' = (zmS C, σ', τ') ∧ mSc2 C σ σ' ∧ mScT C τ τ' ∧ mrPic (σ' (C + 9)) 1164 (aSmo P Q s r n)) 13 [some (.ref C), some (vi of), some (vi gu), some (vi s), some (vi r), some (vi n), some (vi j), none] [] (zmS C, σs, τs)) (N := fun j i => ∀ σs τs : zSt, (mSm C σ σs s r ∧ mScT C τ τs ∧ mGd C τs 1 ((P, Q, s, r, ((j : Int) + (if 0 < i then 1 else 0), (j : Int) + (if 1 < i then 1 else 0), (j : Int) + (if 2 < i then 1 else 0))) : zGr)) → zW G M_X11_smooths (fun u w' => u = none ∧ ∃ σ' τ' : zSt, w' = (zmS C, σ', τ') ∧ mSc2 C σ σ' ∧ mScT C τ τ' ∧ mrPic (σ' (C + 9)) 1164 (aSmo P Q s r n)) 23 [some (.ref C), some (vi of), some (vi gu), some (vi s), some (vi r), some (vi n), some (vi j), some (vi i)] [] (zmS C, σs, τs)) ?_ ?_ ?_ ?_
    · intro σs τs hI
      obtain ⟨hm, ht, hgd⟩ := hI
      have hps := hp.s hpo hm.s
      have en : ((n.toNat : Nat) : Int) = n := by omega
      rw [en] at hgd
      refine zw_iload 15 rfl dX11_smooths_13 rfl ?_
      refine zw_iload 17 rfl dX11_smooths_15 rfl ?_
      refine zw_icmp_ge 48 20 rfl dX11_smooths_17 (by decide) (by omega) (by omega) (fun h_17 => ?_) (fun h_17 => ?_)
      · refine zw_aload_n 49 rfl dX11_smooths_48 rfl ?_
        refine zw_aload_n 50 rfl dX11_smooths_49 rfl ?_
        refine zw_iload_n 51 rfl dX11_smooths_50 rfl ?_
        refine zw_cVi1 54 rfl dX11_smooths_51 kX11_smooths_170 (Nat.le_of_ble_eq_true rfl) (by first | assumption | exact zm_o0 | exact zm_o _ _ _ rfl) (m_wideP hps) ?_
        refine zw_aload_n 55 rfl dX11_smooths_54 rfl ?_
        refine zw_iload_n 56 rfl dX11_smooths_55 rfl ?_
        refine zw_cVi1 59 rfl dX11_smooths_56 kX11_smooths_176 (Nat.le_of_ble_eq_true rfl) (by first | assumption | exact zm_o0 | exact zm_o _ _ _ rfl) (m_highP hps) ?_
        refine zw_cVv2 62 rfl dX11_smooths_59 kX11_smooths_200 (Nat.le_of_ble_eq_true rfl) (by first | assumption | exact zm_o0 | exact zm_o _ _ _ rfl) m_begins ?_
        refine zw_iconst 63 rfl dX11_smooths_62 ?_
        refine zw_istore 65 rfl dX11_smooths_63 (Nat.le_of_ble_eq_true rfl) rfl ?_
        refine paint _ τs ⟨mNw.start hm.s, ⟨by omega, ?_, ?_, hs, hr⟩, ht, hgd⟩
        · rw [zu_a _ _ (by omega), zu_a _ _ (by omega)]; exact hm.2.1
        · rw [zu_a _ _ (by omega), zu_a _ _ (by omega)]; exact hm.2.2
      · omega
    · intro j hj hN
      intro σs τs hI
      obtain ⟨hm, ht, hgd⟩ := hI
      refine zw_iload 15 rfl dX11_smooths_13 rfl ?_
      refine zw_iload 17 rfl dX11_smooths_15 rfl ?_
      refine zw_icmp_ge 48 20 rfl dX11_smooths_17 (by decide) (by omega) (by omega) (fun h_17 => ?_) (fun h_17 => ?_)
      · omega
      · refine zw_iconst 21 rfl dX11_smooths_20 ?_
        refine zw_istore 23 rfl dX11_smooths_21 (Nat.le_of_ble_eq_true rfl) rfl ?_
        refine hN σs τs ⟨hm, ht, ?_⟩
        rw [if_neg (by omega), if_neg (by omega), if_neg (by omega), Int.add_zero]
        exact hgd
    · intro j i hj hi hN
      intro σs τs hI
      obtain ⟨hm, ht, hgd⟩ := hI
      have hgk : zGok ((P, Q, s, r, ((j : Int) + (if 0 < i then 1 else 0), (j : Int) + (if 1 < i then 1 else 0), (j : Int) + (if 2 < i then 1 else 0))) : zGr) := by
        obtain ⟨k1, k2, k3, k4, k5, k6, k7, k8, k9, k10⟩ := hok
        refine ⟨k1, k2, k3, k4, k5, k6, ?_, ?_, ?_, k10⟩
        · show 0 ≤ (j : Int) + (if 0 < i then 1 else 0) ∧ (j : Int) + (if 0 < i then 1 else 0) ≤ 3
          split <;> omega
        · show 0 ≤ (j : Int) + (if 1 < i then 1 else 0) ∧ (j : Int) + (if 1 < i then 1 else 0) ≤ 3
          split <;> omega
        · show 0 ≤ (j : Int) + (if 2 < i then 1 else 0) ∧ (j : Int) + (if 2 < i then 1 else 0) ≤ 3
          split <;> omega
      have hg3 : zGy ((P, Q, s, r, ((j : Int) + (if 0 < i then 1 else 0), (j : Int) + (if 1 < i then 1 else 0), (j : Int) + (if 2 < i then 1 else 0))) : zGr) i < 3 := by
        rcases (show i = 0 ∨ i = 1 ∨ i = 2 by omega) with rfl | rfl | rfl
        · show (j : Int) + 0 < 3; omega
        · show (j : Int) + 0 < 3; omega
        · show (j : Int) + 0 < 3; omega
      have hge : zGb ((P, Q, s, r, ((j : Int) + (if 0 < i then 1 else 0), (j : Int) + (if 1 < i then 1 else 0), (j : Int) + (if 2 < i then 1 else 0))) : zGr) i = ((P, Q, s, r, ((j : Int) + (if 0 < (i + 1) then 1 else 0), (j : Int) + (if 1 < (i + 1) then 1 else 0), (j : Int) + (if 2 < (i + 1) then 1 else 0))) : zGr) := by
        rcases (show i = 0 ∨ i = 1 ∨ i = 2 by omega) with rfl | rfl | rfl
        · show ((P, Q, s, r, ((j : Int) + 0 + 1, (j : Int) + 0, (j : Int) + 0)) : zGr) = ((P, Q, s, r, ((j : Int) + 1, (j : Int) + 0, (j : Int) + 0)) : zGr); rw [Int.add_zero]
        · show ((P, Q, s, r, ((j : Int) + 1, (j : Int) + 0 + 1, (j : Int) + 0)) : zGr) = ((P, Q, s, r, ((j : Int) + 1, (j : Int) + 1, (j : Int) + 0)) : zGr); rw [Int.add_zero]
        · show ((P, Q, s, r, ((j : Int) + 1, (j : Int) + 1, (j : Int) + 0 + 1)) : zGr) = ((P, Q, s, r, ((j : Int) + 1, (j : Int) + 1, (j : Int) + 1)) : zGr); rw [Int.add_zero]
      refine zw_iload 25 rfl dX11_smooths_23 rfl ?_
      refine zw_iconst 26 rfl dX11_smooths_25 ?_
      refine zw_icmp_ge 42 29 rfl dX11_smooths_26 (by decide) (by omega) (by omega) (fun h_26 => ?_) (fun h_26 => ?_)
      · omega
      · refine zw_aload_n 30 rfl dX11_smooths_29 rfl ?_
        refine zw_iconst 31 rfl dX11_smooths_30 ?_
        refine zw_iload 33 rfl dX11_smooths_31 rfl ?_
        refine zw_cVr2 36 rfl dX11_smooths_33 kX11_smooths_282 (Nat.le_of_ble_eq_true rfl) (by first | assumption | exact zm_o0 | exact zm_o _ _ _ rfl) (m_blurs (g := 1) (by omega) (by omega)) ?_
        rintro _ _ ⟨rfl, σ3, τ3, rfl, hb⟩
        have hgd3 := hb.gd hgd hgk (by omega) hg3
        rw [hge] at hgd3
        refine zw_iinc 39 rfl dX11_smooths_36 (Nat.le_of_ble_eq_true rfl) rfl rfl ?_
        refine zw_goto 23 dX11_smooths_39 (by decide) ?_
        refine hN σ3 τ3 ⟨⟨fun b j b1 b2 b3 b4 => ?_, ?_, ?_⟩, fun j hj => ?_, hgd3⟩
        · rw [hb.1, zu_ne _ _ (by omega)]; exact hm.1 b j b1 b2 b3 b4
        · rw [hb.1, zu_ne _ _ (by omega)]; exact hm.2.1
        · rw [hb.1, zu_ne _ _ (by omega)]; exact hm.2.2
        · rw [hb.2.1 _ _ (by omega) (by omega) (by omega), hb.2.1 _ _ (by omega) (by omega) (by omega)]; exact ht j hj
    · intro j hj hO
      intro σs τs hI
      obtain ⟨hm, ht, hgd⟩ := hI
      refine zw_iload 25 rfl dX11_smooths_23 rfl ?_
      refine zw_iconst 26 rfl dX11_smooths_25 ?_
      refine zw_icmp_ge 42 29 rfl dX11_smooths_26 (by decide) (by omega) (by omega) (fun h_26 => ?_) (fun h_26 => ?_)
      · refine zw_iinc 45 rfl dX11_smooths_42 (Nat.le_of_ble_eq_true rfl) rfl rfl ?_
        refine zw_goto 13 dX11_smooths_45 (by decide) ?_
        refine zw_drop 7 ?_
        refine hO σs τs ⟨hm, ht, ?_⟩
        rw [if_pos (by omega), if_pos (by omega), if_pos (by omega)] at hgd
        exact hgd
      · omega
  refine zw_aload_n 1 rfl dX11_smooths_0 rfl ?_
  refine zw_iconst 2 rfl dX11_smooths_1 ?_
  refine zw_iload_n 3 rfl dX11_smooths_2 rfl ?_
  refine zw_iload_n 4 rfl dX11_smooths_3 rfl ?_
  refine zw_iload_n 5 rfl dX11_smooths_4 rfl ?_
  refine zw_iload 7 rfl dX11_smooths_5 rfl ?_
  refine zw_cVr5 10 rfl dX11_smooths_7 kX11_smooths_270 (Nat.le_of_ble_eq_true rfl) (by first | assumption | exact zm_o0 | exact zm_o _ _ _ rfl) (m_spreads (g := 1) (by omega) hp hq e1 e2 hs hr) ?_
  rintro _ _ ⟨rfl, σ3, τ3, rfl, hsp⟩
  refine zw_iconst 11 rfl dX11_smooths_10 ?_
  refine zw_istore 13 rfl dX11_smooths_11 (Nat.le_of_ble_eq_true rfl) rfl ?_
  obtain ⟨p1, p2, p3, p4, p5, p6⟩ := hsp
  exact blurs σ3 τ3 ⟨⟨fun b j b1 b2 b3 b4 => p1 b j b1 b2 b3 (by omega), p2, p3⟩, fun j hj => ⟨p5 _ _ (by omega), p5 _ _ (by omega)⟩, p6⟩
/-! ===== smooth, kept, flat, rests ===== -/
def aWhy (A : zA) (of gu s r n : Int) : Int := if aTold A of then if aTold A gu then if (1 ≤ s ∧ s ≤ 8) ∧ 8 ≤ r ∧ r ≤ 128 then if 0 ≤ n ∧ n ≤ 3 then if aLike A of gu then 0 else 5 else 2 else 2 else 1 else 1
theorem aWhy_r (A : zA) (of gu s r n : Int) : 0 ≤ aWhy A of gu s r n ∧ aWhy A of gu s r n ≤ 5 := by unfold aWhy; (repeat' split) <;> omega
theorem aWhy_0 {A : zA} {of gu s r n : Int} (h : aWhy A of gu s r n = 0) : aTold A of ∧ aTold A gu ∧ ((1 ≤ s ∧ s ≤ 8) ∧ 8 ≤ r ∧ r ≤ 128) ∧ (0 ≤ n ∧ n ≤ 3) ∧ aLike A of gu := by
  unfold aWhy at h
  by_cases c1 : aTold A of
  · by_cases c2 : aTold A gu
    · by_cases c3 : (1 ≤ s ∧ s ≤ 8) ∧ 8 ≤ r ∧ r ≤ 128
      · by_cases c4 : 0 ≤ n ∧ n ≤ 3
        · by_cases c5 : aLike A of gu
          · exact ⟨c1, c2, c3, c4, c5⟩
          · rw [if_pos c1, if_pos c2, if_pos c3, if_pos c4, if_neg c5] at h; omega
        · rw [if_pos c1, if_pos c2, if_pos c3, if_neg c4] at h; omega
      · rw [if_pos c1, if_pos c2, if_neg c3] at h; omega
    · rw [if_pos c1, if_neg c2] at h; omega
  · rw [if_neg c1] at h; omega
theorem m_refusesSm {G : zG} {C : Nat} {σ τ : zSt} {A : zA} {of gu s r n : Int} (hP : mrP (σ (C + 9)) 0 A.1) (hof : -2147483648 ≤ of ∧ of ≤ 2147483647) (hgu : -2147483648 ≤ gu ∧ gu ≤ 2147483647) (hs : -2147483648 ≤ s ∧ s ≤ 2147483647) (hr : -2147483648 ≤ r ∧ r ≤ 2147483647) (hn : -2147483648 ≤ n ∧ n ≤ 2147483647) : zC G M_X11_refusesSmooth [.ref C, vi of, vi gu, vi s, vi r, vi n] (zmS C, σ, τ) (zR (some (vi (aWhy A of gu s r n))) (zmS C, σ, τ)) := by
  refine zC_of 0 rfl (Nat.le_of_ble_eq_true rfl) ?_
  refine zw_aload_n 1 rfl dX11_refusesSmooth_0 rfl ?_
  refine zw_iload_n 2 rfl dX11_refusesSmooth_1 rfl ?_
  refine zw_cVi1 5 rfl dX11_refusesSmooth_2 kX11_refusesSmooth_173 (Nat.le_of_ble_eq_true rfl) (by first | assumption | exact zm_o0 | exact zm_o _ _ _ rfl) (m_isPicture hP hof) ?_
  refine zw_if_eqB 16 8 rfl dX11_refusesSmooth_5 (by decide) (fun h_5 => ?_) (fun h_5 => ?_)
  · refine zw_iconst 17 rfl dX11_refusesSmooth_16 ?_
    exact zw_iretR dX11_refusesSmooth_17 rfl (by unfold aWhy; simp only [if_neg h_5]) rfl
  · refine zw_aload_n 9 rfl dX11_refusesSmooth_8 rfl ?_
    refine zw_iload_n 10 rfl dX11_refusesSmooth_9 rfl ?_
    refine zw_cVi1 13 rfl dX11_refusesSmooth_10 kX11_refusesSmooth_173 (Nat.le_of_ble_eq_true rfl) (by first | assumption | exact zm_o0 | exact zm_o _ _ _ rfl) (m_isPicture hP hgu) ?_
    refine zw_if_neB 18 16 rfl dX11_refusesSmooth_13 (by decide) (fun h_13 => ?_) (fun h_13 => ?_)
    · refine zw_iload_n 19 rfl dX11_refusesSmooth_18 rfl ?_
      refine zw_iload 21 rfl dX11_refusesSmooth_19 rfl ?_
      refine zw_cSi2 24 rfl dX11_refusesSmooth_21 kX11_refusesSmooth_263 (Nat.le_of_ble_eq_true rfl) (m_areSteps hs hr) ?_
      refine zw_if_eqB 37 27 rfl dX11_refusesSmooth_24 (by decide) (fun h_24 => ?_) (fun h_24 => ?_)
      · refine zw_iconst 38 rfl dX11_refusesSmooth_37 ?_
        refine zw_goto 55 dX11_refusesSmooth_38 (by decide) ?_
        exact zw_iretR dX11_refusesSmooth_55 rfl (by unfold aWhy; simp only [if_pos h_5, if_pos h_13, if_neg h_24]) rfl
      · refine zw_iload 29 rfl dX11_refusesSmooth_27 rfl ?_
        refine zw_iconst 30 rfl dX11_refusesSmooth_29 ?_
        refine zw_iconst 31 rfl dX11_refusesSmooth_30 ?_
        refine zw_cSi3 34 rfl dX11_refusesSmooth_31 kX11_refusesSmooth_106 (Nat.le_of_ble_eq_true rfl) (m_in (by omega) (by omega) (by omega)) ?_
        refine zw_if_neB 41 37 rfl dX11_refusesSmooth_34 (by decide) (fun h_34 => ?_) (fun h_34 => ?_)
        · refine zw_aload_n 42 rfl dX11_refusesSmooth_41 rfl ?_
          refine zw_iload_n 43 rfl dX11_refusesSmooth_42 rfl ?_
          refine zw_iload_n 44 rfl dX11_refusesSmooth_43 rfl ?_
          refine zw_cVi2 47 rfl dX11_refusesSmooth_44 kX11_refusesSmooth_267 (Nat.le_of_ble_eq_true rfl) (by first | assumption | exact zm_o0 | exact zm_o _ _ _ rfl) (m_areAsWide (hP.pc h_5) (hP.pc h_13)) ?_
          refine zw_if_neB 54 50 rfl dX11_refusesSmooth_47 (by decide) (fun h_47 => ?_) (fun h_47 => ?_)
          · refine zw_iconst 55 rfl dX11_refusesSmooth_54 ?_
            exact zw_iretR dX11_refusesSmooth_55 rfl (by unfold aWhy; simp only [if_pos h_5, if_pos h_13, if_pos h_24, if_pos h_34, if_pos h_47]) rfl
          · refine zw_iconst 51 rfl dX11_refusesSmooth_50 ?_
            refine zw_goto 55 dX11_refusesSmooth_51 (by decide) ?_
            exact zw_iretR dX11_refusesSmooth_55 rfl (by unfold aWhy; simp only [if_pos h_5, if_pos h_13, if_pos h_24, if_pos h_34, if_neg h_47]) rfl
        · refine zw_iconst 38 rfl dX11_refusesSmooth_37 ?_
          refine zw_goto 55 dX11_refusesSmooth_38 (by decide) ?_
          exact zw_iretR dX11_refusesSmooth_55 rfl (by unfold aWhy; simp only [if_pos h_5, if_pos h_13, if_pos h_24, if_neg h_34]) rfl
    · refine zw_iconst 17 rfl dX11_refusesSmooth_16 ?_
      exact zw_iretR dX11_refusesSmooth_17 rfl (by unfold aWhy; simp only [if_pos h_5, if_neg h_13]) rfl
theorem Y_smooth {G : zG} {C : Nat} {σ τ : zSt} {A : zA} {to of gu s r n : Int} (h : zmR C σ τ A) (hto : -2147483648 ≤ to ∧ to ≤ 2147483647) (hof : -2147483648 ≤ of ∧ of ≤ 2147483647) (hgu : -2147483648 ≤ gu ∧ gu ≤ 2147483647) (hs : -2147483648 ≤ s ∧ s ≤ 2147483647) (hr : -2147483648 ≤ r ∧ r ≤ 2147483647) (hn : -2147483648 ≤ n ∧ n ≤ 2147483647) : zC G M_X11_smooth [.ref C, vi to, vi of, vi gu, vi s, vi r, vi n] (zmS C, σ, τ) (mQ C (sp_smooth A to of gu s r n)) := by
  have hP := (mThrown (v := 0)).P h.p
  have hw := aWhy_r A of gu s r n
  refine zC_of 2 rfl (Nat.le_of_ble_eq_true rfl) ?_
  have J : ∀ v : Int, v = (if aPl to then aWhy A of gu s r n else 1) → zW G M_X11_smooth (mQ C (sp_smooth A to of gu s r n)) 30 [some (.ref C), some (vi to), some (vi of), some (vi gu), some (vi s), some (vi r), some (vi n), none, none] [vi v] (zmS C, zu σ C 0 0, τ) := by
    intro v hv
    have hvr : 0 ≤ v ∧ v ≤ 5 := by rw [hv]; split <;> omega
    refine zw_istore 32 rfl dX11_smooth_30 (Nat.le_of_ble_eq_true rfl) rfl ?_
    refine zw_iload 34 rfl dX11_smooth_32 rfl ?_
    refine zw_if_le 44 37 rfl dX11_smooth_34 (by decide) (by omega) (fun h_34 => ?_) (fun h_34 => ?_)
    · have ht : aPl to := Decidable.byContradiction fun q => by rw [if_neg q] at hv; omega
      rw [if_pos ht] at hv
      have hc := aWhy_0 (show aWhy A of gu s r n = 0 by omega)
      have hq1 := hP.pc hc.1
      have hq2 := hP.pc hc.2.1
      have hww := hq1.wh
      refine zw_aload_n 45 rfl dX11_smooth_44 rfl ?_
      refine zw_iload_n 46 rfl dX11_smooth_45 rfl ?_
      refine zw_iload_n 47 rfl dX11_smooth_46 rfl ?_
      refine zw_iload 49 rfl dX11_smooth_47 rfl ?_
      refine zw_iload 51 rfl dX11_smooth_49 rfl ?_
      refine zw_iload 53 rfl dX11_smooth_51 rfl ?_
      refine zw_cVr5 56 rfl dX11_smooth_53 kX11_smooth_303 (Nat.le_of_ble_eq_true rfl) (by first | assumption | exact zm_o0 | exact zm_o _ _ _ rfl) (m_smooths hq1 hq2 (by omega) (by omega) hc.2.2.2.2.1.symm hc.2.2.2.2.2.symm hc.2.2.1.1 hc.2.2.1.2 hc.2.2.2.1) ?_
      rintro _ _ ⟨rfl, σ3, τ3, rfl, hs3, ht3, hpic⟩
      have hs4 := (mThrown (σ := σ) (C := C) (v := 0)).tr hs3.s
      refine zw_aload_n 57 rfl dX11_smooth_56 rfl ?_
      refine zw_iload_n 58 rfl dX11_smooth_57 rfl ?_
      refine zw_cVi1 61 rfl dX11_smooth_58 kX11_smooth_213 (Nat.le_of_ble_eq_true rfl) (by first | assumption | exact zm_o0 | exact zm_o _ _ _ rfl) (m_others (hq1.s (by omega) hs3) (hpic.n (by show 0 < (A.1 of.toNat).1; omega)) rfl rfl) ?_
      refine zw_istore 63 rfl dX11_smooth_61 (Nat.le_of_ble_eq_true rfl) rfl ?_
      refine zw_aload_n 64 rfl dX11_smooth_63 rfl ?_
      refine zw_iload_n 65 rfl dX11_smooth_64 rfl ?_
      refine zw_cVr1 68 rfl dX11_smooth_65 kX11_smooth_203 (Nat.le_of_ble_eq_true rfl) (by first | assumption | exact zm_o0 | exact zm_o _ _ _ rfl) (m_becomes (hs4.P h.p) (hs4.H h.hs) hpic ht) ?_
      rintro _ _ ⟨rfl, σ2, rfl, hA⟩
      refine zw_aload_n 69 rfl dX11_smooth_68 rfl ?_
      refine zw_iload 71 rfl dX11_smooth_69 rfl ?_
      refine zw_cVi1 74 rfl dX11_smooth_71 kX11_smooth_157 (Nat.le_of_ble_eq_true rfl) (by first | assumption | exact zm_o0 | exact zm_o _ _ _ rfl) m_good ?_
      exact zw_iret (st := []) dX11_smooth_74 rfl (mAct h hs4 ht3 hA (show (if aPl to then aWhy A of gu s r n else 1) = 0 by rw [if_pos ht]; omega))
    · refine zw_aload_n 38 rfl dX11_smooth_37 rfl ?_
      refine zw_iload 40 rfl dX11_smooth_38 rfl ?_
      refine zw_cVi1 43 rfl dX11_smooth_40 kX11_smooth_147 (Nat.le_of_ble_eq_true rfl) (by first | assumption | exact zm_o0 | exact zm_o _ _ _ rfl) m_refused ?_
      exact zw_iret (st := []) dX11_smooth_43 rfl (mRef h mThrown mScT.rf hv.symm (by omega))
  refine zw_aload_n 1 rfl dX11_smooth_0 rfl ?_
  refine zw_iconst 2 rfl dX11_smooth_1 ?_
  refine zw_puti 5 rfl dX11_smooth_2 fp_X11_85 (by first | assumption | exact zm_o0 | exact zm_o _ _ _ rfl) ?_
  refine zw_iload_n 6 rfl dX11_smooth_5 rfl ?_
  refine zw_iconst 7 rfl dX11_smooth_6 ?_
  refine zw_iconst 8 rfl dX11_smooth_7 ?_
  refine zw_cSi3 11 rfl dX11_smooth_8 kX11_smooth_106 (Nat.le_of_ble_eq_true rfl) (m_in (by omega) (by omega) (by omega)) ?_
  refine zw_if_eqB 29 14 rfl dX11_smooth_11 (by decide) (fun h_11 => ?_) (fun h_11 => ?_)
  · refine zw_iconst 30 rfl dX11_smooth_29 ?_
    exact J _ (by simp only [if_neg h_11])
  · refine zw_aload_n 15 rfl dX11_smooth_14 rfl ?_
    refine zw_iload_n 16 rfl dX11_smooth_15 rfl ?_
    refine zw_iload_n 17 rfl dX11_smooth_16 rfl ?_
    refine zw_iload 19 rfl dX11_smooth_17 rfl ?_
    refine zw_iload 21 rfl dX11_smooth_19 rfl ?_
    refine zw_iload 23 rfl dX11_smooth_21 rfl ?_
    refine zw_cVi5 26 rfl dX11_smooth_23 kX11_smooth_299 (Nat.le_of_ble_eq_true rfl) (by first | assumption | exact zm_o0 | exact zm_o _ _ _ rfl) (m_refusesSm hP hof hgu hs hr hn) ?_
    refine zw_goto 30 dX11_smooth_26 (by decide) ?_
    exact J _ (by simp only [if_pos h_11])
theorem Y_kept {G : zG} {C : Nat} {σ τ : zSt} {A : zA} {of gu s r n t : Int} (h : zmR C σ τ A) (hof : -2147483648 ≤ of ∧ of ≤ 2147483647) (hgu : -2147483648 ≤ gu ∧ gu ≤ 2147483647) (hs : -2147483648 ≤ s ∧ s ≤ 2147483647) (hr : -2147483648 ≤ r ∧ r ≤ 2147483647) (hn : -2147483648 ≤ n ∧ n ≤ 2147483647) (ht : -2147483648 ≤ t ∧ t ≤ 2147483647) : zC G M_X11_kept [.ref C, vi of, vi gu, vi s, vi r, vi n, vi t] (zmS C, σ, τ) (mQ C (sp_kept A of gu s r n t)) := by
  have hP := (mThrown (v := 0)).P h.p
  have hw := aWhy_r A of gu s r n
  have hsp : (if aTold A of then if aTold A gu then if (1 ≤ s ∧ s ≤ 8) ∧ 8 ≤ r ∧ r ≤ 128 then if 0 ≤ n ∧ n ≤ 3 then if 0 ≤ t ∧ t ≤ 255 then if aLike A of gu then 0 else 5 else 2 else 2 else 2 else 1 else 1) = (if aWhy A of gu s r n = 1 then 1 else if aWhy A of gu s r n = 2 ∨ ¬ (0 ≤ t ∧ t ≤ 255) then 2 else aWhy A of gu s r n : Int) := by
    unfold aWhy
    by_cases c1 : aTold A of
    · by_cases c2 : aTold A gu
      · by_cases c3 : (1 ≤ s ∧ s ≤ 8) ∧ 8 ≤ r ∧ r ≤ 128
        · by_cases c4 : 0 ≤ n ∧ n ≤ 3
          · by_cases c5 : aLike A of gu
            · simp only [if_pos c1, if_pos c2, if_pos c3, if_pos c4, if_pos c5]; (repeat' split) <;> omega
            · simp only [if_pos c1, if_pos c2, if_pos c3, if_pos c4, if_neg c5]; (repeat' split) <;> omega
          · simp only [if_pos c1, if_pos c2, if_pos c3, if_neg c4]; (repeat' split) <;> omega
        · simp only [if_pos c1, if_pos c2, if_neg c3]; (repeat' split) <;> omega
      · simp only [if_pos c1, if_neg c2, if_true]
    · simp only [if_neg c1, if_true]
  refine zC_of 1 rfl (Nat.le_of_ble_eq_true rfl) ?_
  refine zw_aload_n 1 rfl dX11_kept_0 rfl ?_
  refine zw_iconst 2 rfl dX11_kept_1 ?_
  refine zw_puti 5 rfl dX11_kept_2 fp_X11_85 (by first | assumption | exact zm_o0 | exact zm_o _ _ _ rfl) ?_
  refine zw_aload_n 6 rfl dX11_kept_5 rfl ?_
  refine zw_iload_n 7 rfl dX11_kept_6 rfl ?_
  refine zw_iload_n 8 rfl dX11_kept_7 rfl ?_
  refine zw_iload_n 9 rfl dX11_kept_8 rfl ?_
  refine zw_iload 11 rfl dX11_kept_9 rfl ?_
  refine zw_iload 13 rfl dX11_kept_11 rfl ?_
  refine zw_cVi5 16 rfl dX11_kept_13 kX11_kept_299 (Nat.le_of_ble_eq_true rfl) (by first | assumption | exact zm_o0 | exact zm_o _ _ _ rfl) (m_refusesSm hP hof hgu hs hr hn) ?_
  refine zw_istore 18 rfl dX11_kept_16 (Nat.le_of_ble_eq_true rfl) rfl ?_
  refine zw_iload 20 rfl dX11_kept_18 rfl ?_
  refine zw_iconst 21 rfl dX11_kept_20 ?_
  refine zw_icmp_ne 30 24 rfl dX11_kept_21 (by decide) (by omega) (by omega) (fun h_21 => ?_) (fun h_21 => ?_)
  · refine zw_iload 32 rfl dX11_kept_30 rfl ?_
    refine zw_iconst 33 rfl dX11_kept_32 ?_
    refine zw_icmp_eq 48 36 rfl dX11_kept_33 (by decide) (by omega) (by omega) (fun h_33 => ?_) (fun h_33 => ?_)
    · refine zw_aload_n 49 rfl dX11_kept_48 rfl ?_
      refine zw_iconst 50 rfl dX11_kept_49 ?_
      refine zw_cVi1 53 rfl dX11_kept_50 kX11_kept_147 (Nat.le_of_ble_eq_true rfl) (by first | assumption | exact zm_o0 | exact zm_o _ _ _ rfl) m_refused ?_
      exact zw_iret (st := []) dX11_kept_53 rfl (mRef h mThrown mScT.rf (by rw [hsp, if_neg h_21, if_pos (by first | exact Or.inl h_33 | exact Or.inr h_45)]) (by omega))
    · refine zw_iload 38 rfl dX11_kept_36 rfl ?_
      refine zw_iconst 39 rfl dX11_kept_38 ?_
      refine zw_sipush 42 rfl dX11_kept_39 rfl ?_
      refine zw_cSi3 45 rfl dX11_kept_42 kX11_kept_106 (Nat.le_of_ble_eq_true rfl) (m_in (by omega) (by omega) (by omega)) ?_
      refine zw_if_neB 54 48 rfl dX11_kept_45 (by decide) (fun h_45 => ?_) (fun h_45 => ?_)
      · refine zw_iload 56 rfl dX11_kept_54 rfl ?_
        refine zw_if_le 66 59 rfl dX11_kept_56 (by decide) (by omega) (fun h_56 => ?_) (fun h_56 => ?_)
        · have hc := aWhy_0 (show aWhy A of gu s r n = 0 by omega)
          have hq1 := hP.pc hc.1
          have hq2 := hP.pc hc.2.1
          have hww := hq1.wh
          refine zw_aload_n 67 rfl dX11_kept_66 rfl ?_
          refine zw_iload_n 68 rfl dX11_kept_67 rfl ?_
          refine zw_iload_n 69 rfl dX11_kept_68 rfl ?_
          refine zw_iload_n 70 rfl dX11_kept_69 rfl ?_
          refine zw_iload 72 rfl dX11_kept_70 rfl ?_
          refine zw_iload 74 rfl dX11_kept_72 rfl ?_
          refine zw_cVr5 77 rfl dX11_kept_74 kX11_kept_303 (Nat.le_of_ble_eq_true rfl) (by first | assumption | exact zm_o0 | exact zm_o _ _ _ rfl) (m_smooths hq1 hq2 (by omega) (by omega) hc.2.2.2.2.1.symm hc.2.2.2.2.2.symm hc.2.2.1.1 hc.2.2.1.2 hc.2.2.2.1) ?_
          rintro _ _ ⟨rfl, σ3, τ3, rfl, hs3, ht3, hpic⟩
          have hs4 := (mThrown (σ := σ) (C := C) (v := 0)).tr hs3.s
          refine zw_aload_n 78 rfl dX11_kept_77 rfl ?_
          refine zw_aload_n 79 rfl dX11_kept_78 rfl ?_
          refine zw_iload_n 80 rfl dX11_kept_79 rfl ?_
          refine zw_bipush 82 rfl dX11_kept_80 rfl ?_
          refine zw_iload 84 rfl dX11_kept_82 rfl ?_
          refine zw_cVi3 87 rfl dX11_kept_84 kX11_kept_359 (Nat.le_of_ble_eq_true rfl) (by first | assumption | exact zm_o0 | exact zm_o _ _ _ rfl) (m_edgesOf (hq1.s (by omega) hs3) (Or.inr ⟨by omega, by omega, hpic.n (by show 0 < (A.1 of.toNat).1; omega), rfl, rfl⟩) h_45) ?_
          refine zw_cVi1 90 rfl dX11_kept_87 kX11_kept_157 (Nat.le_of_ble_eq_true rfl) (by first | assumption | exact zm_o0 | exact zm_o _ _ _ rfl) m_good ?_
          exact zw_iret (st := []) dX11_kept_90 rfl (mRead h hs4 ht3 (by rw [hsp, if_neg h_21, if_neg (by intro q; rcases q with q | q; exact h_33 q; exact q h_45)]; omega) rfl rfl)
        · refine zw_aload_n 60 rfl dX11_kept_59 rfl ?_
          refine zw_iload 62 rfl dX11_kept_60 rfl ?_
          refine zw_cVi1 65 rfl dX11_kept_62 kX11_kept_147 (Nat.le_of_ble_eq_true rfl) (by first | assumption | exact zm_o0 | exact zm_o _ _ _ rfl) m_refused ?_
          exact zw_iret (st := []) dX11_kept_65 rfl (mRef h mThrown mScT.rf (by rw [hsp, if_neg h_21, if_neg (by intro q; rcases q with q | q; exact h_33 q; exact q h_45)]) (by omega))
      · refine zw_aload_n 49 rfl dX11_kept_48 rfl ?_
        refine zw_iconst 50 rfl dX11_kept_49 ?_
        refine zw_cVi1 53 rfl dX11_kept_50 kX11_kept_147 (Nat.le_of_ble_eq_true rfl) (by first | assumption | exact zm_o0 | exact zm_o _ _ _ rfl) m_refused ?_
        exact zw_iret (st := []) dX11_kept_53 rfl (mRef h mThrown mScT.rf (by rw [hsp, if_neg h_21, if_pos (by first | exact Or.inl h_33 | exact Or.inr h_45)]) (by omega))
  · refine zw_aload_n 25 rfl dX11_kept_24 rfl ?_
    refine zw_iconst 26 rfl dX11_kept_25 ?_
    refine zw_cVi1 29 rfl dX11_kept_26 kX11_kept_147 (Nat.le_of_ble_eq_true rfl) (by first | assumption | exact zm_o0 | exact zm_o _ _ _ rfl) m_refused ?_
    exact zw_iret (st := []) dX11_kept_29 rfl (mRef h mThrown mScT.rf (by rw [hsp, if_pos h_21]) (by omega))
theorem Y_flat {G : zG} {C : Nat} {σ τ : zSt} {A : zA} {of s r t : Int} (h : zmR C σ τ A) (hof : -2147483648 ≤ of ∧ of ≤ 2147483647) (hs : -2147483648 ≤ s ∧ s ≤ 2147483647) (hr : -2147483648 ≤ r ∧ r ≤ 2147483647) (ht : -2147483648 ≤ t ∧ t ≤ 2147483647) : zC G M_X11_flat [.ref C, vi of, vi s, vi r, vi t] (zmS C, σ, τ) (mQ C (sp_flat A of s r t)) := by
  have hP := (mThrown (v := 0)).P h.p
  refine zC_of 1 rfl (Nat.le_of_ble_eq_true rfl) ?_
  have loop : aTold A of → (1 ≤ s ∧ s ≤ 8) ∧ 8 ≤ r ∧ r ≤ 128 → (1 ≤ t ∧ t ≤ 255) → ∀ (m k : Nat) (σs τs : zSt), m + k = 4 → aFlat (A.1 of.toNat) s r t m k = aFlat (A.1 of.toNat) s r t 4 0 → mScr C σ σs → mScT C τ τs → zW G M_X11_flat (mQ C (sp_flat A of s r t)) 48 [some (.ref C), some (vi of), some (vi s), some (vi r), some (vi t), some (vi k)] [] (zmS C, σs, τs) := by
    intro hc1 hc2 hc3 m
    have hwhy : (if aTold A of then if (1 ≤ s ∧ s ≤ 8) ∧ 8 ≤ r ∧ r ≤ 128 then if 1 ≤ t ∧ t ≤ 255 then 0 else 2 else 2 else 1) = (0 : Int) := by rw [if_pos hc1, if_pos hc2, if_pos hc3]
    induction m with
    | zero =>
      intro k σs τs hk hE hs2 ht2
      have hE : (-2 : Int) = aFlat (A.1 of.toNat) s r t 4 0 := hE
      refine zw_iload 50 rfl dX11_flat_48 rfl ?_
      refine zw_iconst 51 rfl dX11_flat_50 ?_
      refine zw_icmp_gt 89 54 rfl dX11_flat_51 (by decide) (by omega) (by omega) (fun h_51 => ?_) (fun h_51 => ?_)
      · refine zw_aload_n 90 rfl dX11_flat_89 rfl ?_
        refine zw_bipush 92 rfl dX11_flat_90 rfl ?_
        refine zw_cVi1 95 rfl dX11_flat_92 kX11_flat_157 (Nat.le_of_ble_eq_true rfl) (by first | assumption | exact zm_o0 | exact zm_o _ _ _ rfl) m_good ?_
        exact zw_iret (st := []) dX11_flat_95 rfl (mRead h hs2 ht2 hwhy hE rfl)
      · exfalso; omega
    | succ m ih =>
      intro k σs τs hk hE hs2 ht2
      have hq := (hs2.P h.p).pc hc1
      have hw := hq.wh
      have hEr := aEdge_r (p := aSmo (A.1 of.toNat) (A.1 of.toNat) s r k) (q := aSmo (A.1 of.toNat) (A.1 of.toNat) s r k) (t := t) hw
      simp only [aFlat] at hE
      refine zw_iload 50 rfl dX11_flat_48 rfl ?_
      refine zw_iconst 51 rfl dX11_flat_50 ?_
      refine zw_icmp_gt 89 54 rfl dX11_flat_51 (by decide) (by omega) (by omega) (fun h_51 => ?_) (fun h_51 => ?_)
      · exfalso; omega
      · refine zw_aload_n 55 rfl dX11_flat_54 rfl ?_
        refine zw_iload_n 56 rfl dX11_flat_55 rfl ?_
        refine zw_iload_n 57 rfl dX11_flat_56 rfl ?_
        refine zw_iload_n 58 rfl dX11_flat_57 rfl ?_
        refine zw_iload_n 59 rfl dX11_flat_58 rfl ?_
        refine zw_iload 61 rfl dX11_flat_59 rfl ?_
        refine zw_cVr5 64 rfl dX11_flat_61 kX11_flat_303 (Nat.le_of_ble_eq_true rfl) (by first | assumption | exact zm_o0 | exact zm_o _ _ _ rfl) (m_smooths hq hq (by omega) (by omega) rfl rfl hc2.1 hc2.2 (by omega)) ?_
        rintro _ _ ⟨rfl, σ3, τ3, rfl, hs3, ht3, hpic⟩
        have hs4 := hs2.tr hs3.s
        have ht4 := ht2.tr ht3
        refine zw_aload_n 65 rfl dX11_flat_64 rfl ?_
        refine zw_bipush 67 rfl dX11_flat_65 rfl ?_
        refine zw_iconst 68 rfl dX11_flat_67 ?_
        refine zw_iload 70 rfl dX11_flat_68 rfl ?_
        refine zw_cVi3 73 rfl dX11_flat_70 kX11_flat_359 (Nat.le_of_ble_eq_true rfl) (by first | assumption | exact zm_o0 | exact zm_o _ _ _ rfl) (m_edgesOf (hpic.n (by show 0 < (A.1 of.toNat).1; omega)) (Or.inl ⟨rfl, rfl⟩) (by omega)) ?_
        refine zw_if_ne 83 76 rfl dX11_flat_73 (by decide) (by omega) (fun h_73 => ?_) (fun h_73 => ?_)
        · refine zw_iinc 86 rfl dX11_flat_83 (Nat.le_of_ble_eq_true rfl) rfl rfl ?_
          refine zw_goto 48 dX11_flat_86 (by decide) ?_
          rw [if_neg h_73] at hE
          exact ih (k + 1) σ3 τ3 (by omega) hE hs4 ht4
        · refine zw_aload_n 77 rfl dX11_flat_76 rfl ?_
          refine zw_iload 79 rfl dX11_flat_77 rfl ?_
          refine zw_cVi1 82 rfl dX11_flat_79 kX11_flat_157 (Nat.le_of_ble_eq_true rfl) (by first | assumption | exact zm_o0 | exact zm_o _ _ _ rfl) m_good ?_
          rw [if_pos h_73] at hE
          exact zw_iret (st := []) dX11_flat_82 rfl (mRead h hs4 ht4 hwhy hE rfl)
  refine zw_aload_n 1 rfl dX11_flat_0 rfl ?_
  refine zw_iconst 2 rfl dX11_flat_1 ?_
  refine zw_puti 5 rfl dX11_flat_2 fp_X11_85 (by first | assumption | exact zm_o0 | exact zm_o _ _ _ rfl) ?_
  refine zw_aload_n 6 rfl dX11_flat_5 rfl ?_
  refine zw_iload_n 7 rfl dX11_flat_6 rfl ?_
  refine zw_cVi1 10 rfl dX11_flat_7 kX11_flat_173 (Nat.le_of_ble_eq_true rfl) (by first | assumption | exact zm_o0 | exact zm_o _ _ _ rfl) (m_isPicture hP hof) ?_
  refine zw_if_neB 19 13 rfl dX11_flat_10 (by decide) (fun h_10 => ?_) (fun h_10 => ?_)
  · refine zw_iload_n 20 rfl dX11_flat_19 rfl ?_
    refine zw_iload_n 21 rfl dX11_flat_20 rfl ?_
    refine zw_cSi2 24 rfl dX11_flat_21 kX11_flat_263 (Nat.le_of_ble_eq_true rfl) (m_areSteps hs hr) ?_
    refine zw_if_eqB 39 27 rfl dX11_flat_24 (by decide) (fun h_24 => ?_) (fun h_24 => ?_)
    · refine zw_aload_n 40 rfl dX11_flat_39 rfl ?_
      refine zw_iconst 41 rfl dX11_flat_40 ?_
      refine zw_cVi1 44 rfl dX11_flat_41 kX11_flat_147 (Nat.le_of_ble_eq_true rfl) (by first | assumption | exact zm_o0 | exact zm_o _ _ _ rfl) m_refused ?_
      exact zw_iret (st := []) dX11_flat_44 rfl (mRef h mThrown mScT.rf (by simp only [if_pos h_10, if_neg h_24, if_true, if_false]) (by omega))
    · refine zw_iload 29 rfl dX11_flat_27 rfl ?_
      refine zw_iconst 30 rfl dX11_flat_29 ?_
      refine zw_sipush 33 rfl dX11_flat_30 rfl ?_
      refine zw_cSi3 36 rfl dX11_flat_33 kX11_flat_106 (Nat.le_of_ble_eq_true rfl) (m_in (by omega) (by omega) (by omega)) ?_
      refine zw_if_neB 45 39 rfl dX11_flat_36 (by decide) (fun h_36 => ?_) (fun h_36 => ?_)
      · refine zw_iconst 46 rfl dX11_flat_45 ?_
        refine zw_istore 48 rfl dX11_flat_46 (Nat.le_of_ble_eq_true rfl) rfl ?_
        exact loop h_10 h_24 h_36 4 0 _ τ rfl rfl mThrown mScT.rf
      · refine zw_aload_n 40 rfl dX11_flat_39 rfl ?_
        refine zw_iconst 41 rfl dX11_flat_40 ?_
        refine zw_cVi1 44 rfl dX11_flat_41 kX11_flat_147 (Nat.le_of_ble_eq_true rfl) (by first | assumption | exact zm_o0 | exact zm_o _ _ _ rfl) m_refused ?_
        exact zw_iret (st := []) dX11_flat_44 rfl (mRef h mThrown mScT.rf (by simp only [if_pos h_10, if_pos h_24, if_neg h_36, if_true, if_false]) (by omega))
  · refine zw_aload_n 14 rfl dX11_flat_13 rfl ?_
    refine zw_iconst 15 rfl dX11_flat_14 ?_
    refine zw_cVi1 18 rfl dX11_flat_15 kX11_flat_147 (Nat.le_of_ble_eq_true rfl) (by first | assumption | exact zm_o0 | exact zm_o _ _ _ rfl) m_refused ?_
    exact zw_iret (st := []) dX11_flat_18 rfl (mRef h mThrown mScT.rf (by simp only [if_neg h_10, if_true, if_false]) (by omega))
