/-! ===== a grid is made ===== -/
/-- of the long numbers only those of half g have changed -/
def mTF (C g : Nat) (τ τ' : zSt) : Prop := ∀ b j, ¬ ((b = C + 11 ∨ b = C + 12) ∧ 17043 * g ≤ j ∧ j < 17043 * g + 17043) → τ' b j = τ b j
theorem mTF.u {C g b n : Nat} {τ τ' : zSt} {v : Int} (h : mTF C g τ τ') (hb : b = C + 11 ∨ b = C + 12) (hn : n < 17043) : mTF C g τ (zu τ' b (17043 * g + n) v) := fun c j hc => by rw [zu_ne _ _ (by omega)]; exact h c j hc
def mSpr (C g : Nat) (σ σ' τ τ' : zSt) (G : zGr) : Prop := (∀ b j, ¬ (b = C ∧ 33 ≤ j ∧ j ≤ 36) → ¬ (b = C + 15 ∧ j = g) → ¬ (b = C + 16 ∧ j = g) → ¬ (b = C + 17 ∧ 3 * g ≤ j ∧ j < 3 * g + 3) → σ' b j = σ b j) ∧ σ' (C + 15) g = G.2.2.1 ∧ σ' (C + 16) g = G.2.2.2.1 ∧ (∀ j, j < 3 → σ' (C + 17) (3 * g + j) = 0) ∧ mTF C g τ τ' ∧ mGd C τ' g G
theorem mPc.f {C : Nat} {σ σ' : zSt} {p : Int} {q : zPc} (h : mPc C σ p q) (hf : ∀ j, σ' (C + 9) j = σ (C + 9) j) : mPc C σ' p q := h.c (fun j _ => hf _)
theorem zS_z {f : Nat → Int} (n : Nat) (h : ∀ i, i < n → f i = 0) : zS f n = 0 := by rw [zS_c (g := fun _ => 0) n h, zS_k]; simp
theorem m_spreads {G : zG} {C : Nat} {σ τ : zSt} {g : Nat} {of gu s r : Int} {P Q : zPc} (hg : g < 2) (hp : mPc C σ of P) (hq : mPc C σ gu Q) (e1 : Q.1 = P.1) (e2 : Q.2.1 = P.2.1) (hs : 1 ≤ s ∧ s ≤ 8) (hr : 8 ≤ r ∧ r ≤ 128) : zC G M_X11_spreads [.ref C, vi (g : Int), vi of, vi gu, vi s, vi r] (zmS C, σ, τ) (fun u w' => u = none ∧ ∃ σ' τ' : zSt, w' = (zmS C, σ', τ') ∧ mSpr C g σ σ' τ τ' (aSmG P Q s r 0)) := by
  have hw := hp.wh
  refine zC_of 3 rfl (Nat.le_of_ble_eq_true rfl) ?_
  have hE1 : ∀ n, zwt (aSmG P Q s r 0) (mnI n) (mnJ n) (mnK n) = zpt P.1 (fun (x y a : Int) => a + zgift x (mnI n) s 0 * zgift y (mnJ n) s 0 * zgift (Q.2.2 x y) (mnK n) r 0) 0 P.2.1.toNat 0 := fun n => by rw [← zpt_e]; rfl
  have hE2 : ∀ n, zsm (aSmG P Q s r 0) (mnI n) (mnJ n) (mnK n) = zpt P.1 (fun (x y a : Int) => a + zgift x (mnI n) s 0 * zgift y (mnJ n) s 0 * zgift (Q.2.2 x y) (mnK n) r 0 * P.2.2 x y) 0 P.2.1.toNat 0 := fun n => by rw [← zpt_e]; rfl
  have hWs : ∀ n x y a, (fun (x y a : Int) => a + zgift x (mnI n) s 0 * zgift y (mnJ n) s 0 * zgift (Q.2.2 x y) (mnK n) r 0) x y a = a + zgift x (mnI n) s 0 * zgift y (mnJ n) s 0 * zgift (Q.2.2 x y) (mnK n) r 0 := fun _ _ _ _ => rfl
  have hSs : ∀ n x y a, (fun (x y a : Int) => a + zgift x (mnI n) s 0 * zgift y (mnJ n) s 0 * zgift (Q.2.2 x y) (mnK n) r 0 * P.2.2 x y) x y a = a + zgift x (mnI n) s 0 * zgift y (mnJ n) s 0 * zgift (Q.2.2 x y) (mnK n) r 0 * P.2.2 x y := fun _ _ _ _ => rfl
  generalize hFw : (fun (n : Nat) => (fun (x y a : Int) => a + zgift x (mnI n) s 0 * zgift y (mnJ n) s 0 * zgift (Q.2.2 x y) (mnK n) r 0)) = Fw
  generalize hFs : (fun (n : Nat) => (fun (x y a : Int) => a + zgift x (mnI n) s 0 * zgift y (mnJ n) s 0 * zgift (Q.2.2 x y) (mnK n) r 0 * P.2.2 x y)) = Fs
  have hE1 : ∀ n, zwt (aSmG P Q s r 0) (mnI n) (mnJ n) (mnK n) = zpt P.1 (Fw n) 0 P.2.1.toNat 0 := fun n => by rw [← hFw]; exact hE1 n
  have hE2 : ∀ n, zsm (aSmG P Q s r 0) (mnI n) (mnJ n) (mnK n) = zpt P.1 (Fs n) 0 P.2.1.toNat 0 := fun n => by rw [← hFs]; exact hE2 n
  have hWs : ∀ n x y a, Fw n x y a = a + zgift x (mnI n) s 0 * zgift y (mnJ n) s 0 * zgift (Q.2.2 x y) (mnK n) r 0 := fun n x y a => by rw [← hFw]
  have hSs : ∀ n x y a, Fs n x y a = a + zgift x (mnI n) s 0 * zgift y (mnJ n) s 0 * zgift (Q.2.2 x y) (mnK n) r 0 * P.2.2 x y := fun n x y a => by rw [← hFs]
  -- the end: how often it was blurred
  have fin : ∀ σs τs : zSt, mFr C (zu (zu σ (C + 15) g s) (C + 16) g r) σs → mTF C g τ τs → mGd C τs g (aSmG P Q s r 0) → zW G M_X11_spreads (fun u w' => u = none ∧ ∃ σ' τ' : zSt, w' = (zmS C, σ', τ') ∧ mSpr C g σ σ' τ τ' (aSmG P Q s r 0)) 201 [some (.ref C), some (vi (g : Int)), some (vi of), some (vi gu), some (vi s), some (vi r), some (vi (0 : Nat)), none, none] [] (zmS C, σs, τs) := by
    intro σs τs h1 h2 h3
    have key : ∀ σ2 : zSt, (∀ b j, ¬ (b = C + 17 ∧ 3 * g ≤ j ∧ j < 3 * g + 3) → σ2 b j = σs b j) → (∀ j, j < 0 → σ2 (C + 17) (3 * g + j) = 0) → zW G M_X11_spreads (fun u w' => u = none ∧ ∃ σ' τ' : zSt, w' = (zmS C, σ', τ') ∧ mSpr C g σ σ' τ τ' (aSmG P Q s r 0)) 201 [some (.ref C), some (vi (g : Int)), some (vi of), some (vi gu), some (vi s), some (vi r), some (vi (0 : Nat)), none, none] [] (zmS C, σ2, τs) := by
      refine zloop (n := 3) (L := fun k => ∀ σ2 : zSt, (∀ b j, ¬ (b = C + 17 ∧ 3 * g ≤ j ∧ j < 3 * g + 3) → σ2 b j = σs b j) → (∀ j, j < k → σ2 (C + 17) (3 * g + j) = 0) → zW G M_X11_spreads (fun u w' => u = none ∧ ∃ σ' τ' : zSt, w' = (zmS C, σ', τ') ∧ mSpr C g σ σ' τ τ' (aSmG P Q s r 0)) 201 [some (.ref C), some (vi (g : Int)), some (vi of), some (vi gu), some (vi s), some (vi r), some (vi k), none, none] [] (zmS C, σ2, τs)) ?_ ?_
      · intro σ2 f1 f2
        refine zw_iload 203 rfl dX11_spreads_201 rfl ?_
        refine zw_iconst 204 rfl dX11_spreads_203 ?_
        refine zw_icmp_ge 225 207 rfl dX11_spreads_204 (by decide) (by omega) (by omega) (fun h_204 => ?_) (fun h_204 => ?_)
        · refine zw_vret (st := []) dX11_spreads_225 rfl ⟨rfl, _, _, rfl, fun b j b1 b2 b3 b4 => ?_, ?_, ?_, f2, h2, h3⟩
          · rw [f1 b j b4, h1 b j b1, zu_ne _ _ b3, zu_ne _ _ b2]
          · rw [f1 _ _ (by omega), h1 _ _ (by omega), zu_a _ _ (by omega), zu_eq]; rfl
          · rw [f1 _ _ (by omega), h1 _ _ (by omega), zu_eq]; rfl
        · exfalso; omega
      · intro k hk ih σ2 f1 f2
        refine zw_iload 203 rfl dX11_spreads_201 rfl ?_
        refine zw_iconst 204 rfl dX11_spreads_203 ?_
        refine zw_icmp_ge 225 207 rfl dX11_spreads_204 (by decide) (by omega) (by omega) (fun h_204 => ?_) (fun h_204 => ?_)
        · exfalso; omega
        · refine zw_aload_n 208 rfl dX11_spreads_207 rfl ?_
          refine zw_getr 211 rfl dX11_spreads_208 fl_X11_64 (by first | assumption | exact zm_o0 | exact zm_o _ _ _ rfl) (by first | assumption | exact zm_f _ _ rfl) ?_
          refine zw_iconst 212 rfl dX11_spreads_211 ?_
          refine zw_iload_n 213 rfl dX11_spreads_212 rfl ?_
          refine zw_imul 214 rfl dX11_spreads_213 ?_
          refine zw_iload 216 rfl dX11_spreads_214 rfl ?_
          refine zw_iadd 217 rfl dX11_spreads_216 ?_
          refine zw_iconst 218 rfl dX11_spreads_217 ?_
          refine zw_iast 219 rfl dX11_spreads_218 (by first | assumption | exact zm_o0 | exact zm_o _ _ _ rfl) (by omega) (by omega) ?_
          refine zw_iinc 222 rfl dX11_spreads_219 (Nat.le_of_ble_eq_true rfl) rfl rfl ?_
          refine zw_goto 201 dX11_spreads_222 (by decide) ?_
          rw [show (3 * (g : Int) + (k : Int)).toNat = 3 * g + k by omega]
          refine ih _ (fun b j hb => by rw [zu_ne _ _ (by omega)]; exact f1 b j hb) (fun j hj => ?_)
          by_cases q : j = k
          · subst q; rw [zu_eq]
          · rw [zu_k _ _ (by omega)]; exact f2 j (by omega)
    exact key σs (fun _ _ _ => rfl) (fun j hj => absurd hj (by omega))
  -- dot by dot
  have dots : ∀ σs τs : zSt, mFr C (zu (zu σ (C + 15) g s) (C + 16) g r) σs → (mTF C g τ τs ∧ ∀ n, n < 17043 → τs (C + 11) (17043 * g + n) = zpt P.1 (Fw n) 0 0 0 ∧ τs (C + 12) (17043 * g + n) = zpt P.1 (Fs n) 0 0 0) → zW G M_X11_spreads (fun u w' => u = none ∧ ∃ σ' τ' : zSt, w' = (zmS C, σ', τ') ∧ mSpr C g σ σ' τ τ' (aSmG P Q s r 0)) 64 [some (.ref C), some (vi (g : Int)), some (vi of), some (vi gu), some (vi s), some (vi r), some (vi (0 : Nat)), none, none] [] (zmS C, σs, τs) := by
    refine zrows (w := P.1.toNat) (h := P.2.1.toNat) (O := fun j => ∀ σs τs : zSt, mFr C (zu (zu σ (C + 15) g s) (C + 16) g r) σs → (mTF C g τ τs ∧ ∀ n, n < 17043 → τs (C + 11) (17043 * g + n) = zpt P.1 (Fw n) 0 j 0 ∧ τs (C + 12) (17043 * g + n) = zpt P.1 (Fs n) 0 j 0) → zW G M_X11_spreads (fun u w' => u = none ∧ ∃ σ' τ' : zSt, w' = (zmS C, σ', τ') ∧ mSpr C g σ σ' τ τ' (aSmG P Q s r 0)) 64 [some (.ref C), some (vi (g : Int)), some (vi of), some (vi gu), some (vi s), some (vi r), some (vi j), none, none] [] (zmS C, σs, τs)) (N := fun j i => ∀ σs τs : zSt, mFr C (zu (zu σ (C + 15) g s) (C + 16) g r) σs → (mTF C g τ τs ∧ ∀ n, n < 17043 → τs (C + 11) (17043 * g + n) = zpt P.1 (Fw n) 0 j i ∧ τs (C + 12) (17043 * g + n) = zpt P.1 (Fs n) 0 j i) → zW G M_X11_spreads (fun u w' => u = none ∧ ∃ σ' τ' : zSt, w' = (zmS C, σ', τ') ∧ mSpr C g σ σ' τ τ' (aSmG P Q s r 0)) 77 [some (.ref C), some (vi (g : Int)), some (vi of), some (vi gu), some (vi s), some (vi r), some (vi j), some (vi i), none] [] (zmS C, σs, τs)) ?_ ?_ ?_ ?_
    · intro σs τs h1 h2
      have hps : mPc C σs of P := hp.f (fun j => by rw [h1 _ _ (by omega), zu_a _ _ (by omega), zu_a _ _ (by omega)])
      have hqs : mPc C σs gu Q := hq.f (fun j => by rw [h1 _ _ (by omega), zu_a _ _ (by omega), zu_a _ _ (by omega)])
      refine zw_iload 66 rfl dX11_spreads_64 rfl ?_
      refine zw_aload_n 67 rfl dX11_spreads_66 rfl ?_
      refine zw_iload_n 68 rfl dX11_spreads_67 rfl ?_
      refine zw_cVi1 71 rfl dX11_spreads_68 kX11_spreads_176 (Nat.le_of_ble_eq_true rfl) (by first | assumption | exact zm_o0 | exact zm_o _ _ _ rfl) (m_highP hps) ?_
      refine zw_icmp_ge 198 74 rfl dX11_spreads_71 (by decide) (by omega) (by omega) (fun h_71 => ?_) (fun h_71 => ?_)
      · refine zw_iconst 199 rfl dX11_spreads_198 ?_
        refine zw_istore 201 rfl dX11_spreads_199 (Nat.le_of_ble_eq_true rfl) rfl ?_
        exact fin σs τs h1 h2.1 (fun n hn => ⟨by rw [hE1]; exact (h2.2 n hn).1, by rw [hE2]; exact (h2.2 n hn).2⟩)
      · omega
    · intro j hj hN
      intro σs τs h1 h2
      have hps : mPc C σs of P := hp.f (fun j => by rw [h1 _ _ (by omega), zu_a _ _ (by omega), zu_a _ _ (by omega)])
      have hqs : mPc C σs gu Q := hq.f (fun j => by rw [h1 _ _ (by omega), zu_a _ _ (by omega), zu_a _ _ (by omega)])
      refine zw_iload 66 rfl dX11_spreads_64 rfl ?_
      refine zw_aload_n 67 rfl dX11_spreads_66 rfl ?_
      refine zw_iload_n 68 rfl dX11_spreads_67 rfl ?_
      refine zw_cVi1 71 rfl dX11_spreads_68 kX11_spreads_176 (Nat.le_of_ble_eq_true rfl) (by first | assumption | exact zm_o0 | exact zm_o _ _ _ rfl) (m_highP hps) ?_
      refine zw_icmp_ge 198 74 rfl dX11_spreads_71 (by decide) (by omega) (by omega) (fun h_71 => ?_) (fun h_71 => ?_)
      · omega
      · refine zw_iconst 75 rfl dX11_spreads_74 ?_
        refine zw_istore 77 rfl dX11_spreads_75 (Nat.le_of_ble_eq_true rfl) rfl ?_
        exact hN σs τs h1 h2
    · intro j i hj hi hN
      intro σs τs h1 h2
      have hps : mPc C σs of P := hp.f (fun j => by rw [h1 _ _ (by omega), zu_a _ _ (by omega), zu_a _ _ (by omega)])
      have hqs : mPc C σs gu Q := hq.f (fun j => by rw [h1 _ _ (by omega), zu_a _ _ (by omega), zu_a _ _ (by omega)])
      have hv := hqs.d (x := i) (y := j) (by omega) (by omega)
      have hd := hps.d (x := i) (y := j) (by omega) (by omega)
      have hsr : mSR C σs g s r := ⟨hg, by rw [h1 _ _ (by omega), zu_a _ _ (by omega), zu_eq], by rw [h1 _ _ (by omega), zu_eq], hs, hr⟩
      have K : ∀ σ3 : zSt, mFr C (zu (zu σ (C + 15) g s) (C + 16) g r) σ3 → mLy C i j (Q.2.2 i j) s r σ3 → ∀ τ3 : zSt, (mTF C g τ τ3 ∧ ∀ n, n < 17043 → τ3 (C + 11) (17043 * g + n) = zpt P.1 (Fw n) 0 j i + zS (fun m => if n = mNd i j (Q.2.2 i j) s r m then mPt i j (Q.2.2 i j) s r m else 0) 0 ∧ τ3 (C + 12) (17043 * g + n) = zpt P.1 (Fs n) 0 j i + zS (fun m => P.2.2 i j * (if n = mNd i j (Q.2.2 i j) s r m then mPt i j (Q.2.2 i j) s r m else 0)) 0) → zW G M_X11_spreads (fun u w' => u = none ∧ ∃ σ' τ' : zSt, w' = (zmS C, σ', τ') ∧ mSpr C g σ σ' τ τ' (aSmG P Q s r 0)) 108 [some (.ref C), some (vi (g : Int)), some (vi of), some (vi gu), some (vi s), some (vi r), some (vi j), some (vi i), some (vi (0 : Nat))] [] (zmS C, σ3, τ3) := by
        intro σ3 f3 l3
        have hps3 : mPc C σ3 of P := hp.f (fun j => by rw [f3 _ _ (by omega), zu_a _ _ (by omega), zu_a _ _ (by omega)])
        have hsr3 : mSR C σ3 g s r := ⟨hg, by rw [f3 _ _ (by omega), zu_a _ _ (by omega), zu_eq], by rw [f3 _ _ (by omega), zu_eq], hs, hr⟩
        refine zloop (n := 8) (L := fun m => ∀ τ3 : zSt, (mTF C g τ τ3 ∧ ∀ n, n < 17043 → τ3 (C + 11) (17043 * g + n) = zpt P.1 (Fw n) 0 j i + zS (fun m => if n = mNd i j (Q.2.2 i j) s r m then mPt i j (Q.2.2 i j) s r m else 0) m ∧ τ3 (C + 12) (17043 * g + n) = zpt P.1 (Fs n) 0 j i + zS (fun m => P.2.2 i j * (if n = mNd i j (Q.2.2 i j) s r m then mPt i j (Q.2.2 i j) s r m else 0)) m) → zW G M_X11_spreads (fun u w' => u = none ∧ ∃ σ' τ' : zSt, w' = (zmS C, σ', τ') ∧ mSpr C g σ σ' τ τ' (aSmG P Q s r 0)) 108 [some (.ref C), some (vi (g : Int)), some (vi of), some (vi gu), some (vi s), some (vi r), some (vi j), some (vi i), some (vi m)] [] (zmS C, σ3, τ3)) ?_ ?_
        · intro τ3 h3
          refine zw_iload 110 rfl dX11_spreads_108 rfl ?_
          refine zw_bipush 112 rfl dX11_spreads_110 rfl ?_
          refine zw_icmp_ge 186 115 rfl dX11_spreads_112 (by decide) (by omega) (by omega) (fun h_112 => ?_) (fun h_112 => ?_)
          · refine zw_iinc 189 rfl dX11_spreads_186 (Nat.le_of_ble_eq_true rfl) rfl rfl ?_
            refine zw_goto 77 dX11_spreads_189 (by decide) ?_
            refine zw_drop 8 ?_
            refine hN σ3 τ3 f3 ⟨h3.1, fun n hn => ⟨?_, ?_⟩⟩
            · rw [zpt_s, hWs, (h3.2 n hn).1, mGive hn (by omega) (by omega) hv hs hr]
            · rw [zpt_s, hSs, (h3.2 n hn).2, zS_mul, mGive hn (by omega) (by omega) hv hs hr, Int.mul_comm (P.2.2 i j)]
          · exfalso; omega
        · intro m hm ih τ3 h3
          have hnr := mNd_r (x := i) (y := j) (v := Q.2.2 i j) (s := s) (r := r) (m := m) (by omega) (by omega) hv hs hr hm
          have hix : (17043 * (g : Int) + (mNd i j (Q.2.2 i j) s r m : Nat)).toNat = 17043 * g + mNd i j (Q.2.2 i j) s r m := by omega
          refine zw_iload 110 rfl dX11_spreads_108 rfl ?_
          refine zw_bipush 112 rfl dX11_spreads_110 rfl ?_
          refine zw_icmp_ge 186 115 rfl dX11_spreads_112 (by decide) (by omega) (by omega) (fun h_112 => ?_) (fun h_112 => ?_)
          · exfalso; omega
          · refine zw_aload_n 116 rfl dX11_spreads_115 rfl ?_
            refine zw_getr 119 rfl dX11_spreads_116 fl_X11_45 (by first | assumption | exact zm_o0 | exact zm_o _ _ _ rfl) (by first | assumption | exact zm_f _ _ rfl) ?_
            refine zw_sipush 122 rfl dX11_spreads_119 rfl ?_
            refine zw_iload_n 123 rfl dX11_spreads_122 rfl ?_
            refine zw_imul 124 rfl dX11_spreads_123 ?_
            refine zw_aload_n 125 rfl dX11_spreads_124 rfl ?_
            refine zw_iload 127 rfl dX11_spreads_125 rfl ?_
            refine zw_cVi1 130 rfl dX11_spreads_127 kX11_spreads_234 (Nat.le_of_ble_eq_true rfl) (by first | assumption | exact zm_o0 | exact zm_o _ _ _ rfl) (m_nodeOf l3 hm (by omega) (by omega) hv hs hr) ?_
            refine zw_iadd 131 rfl dX11_spreads_130 ?_
            refine zw_dup2_11 132 rfl dX11_spreads_131 rfl rfl ?_
            refine zw_lald 133 rfl dX11_spreads_132 (by first | assumption | exact zm_o0 | exact zm_o _ _ _ rfl) (by omega) (by omega) ?_
            rw [hix]
            refine zw_aload_n 134 rfl dX11_spreads_133 rfl ?_
            refine zw_iload_n 135 rfl dX11_spreads_134 rfl ?_
            refine zw_iload 137 rfl dX11_spreads_135 rfl ?_
            refine zw_cVi2 140 rfl dX11_spreads_137 kX11_spreads_237 (Nat.le_of_ble_eq_true rfl) (by first | assumption | exact zm_o0 | exact zm_o _ _ _ rfl) (m_partOf hsr3 l3 hm) ?_
            refine zw_ladd 141 rfl dX11_spreads_140 ?_
            refine zw_last 142 rfl dX11_spreads_141 (by first | assumption | exact zm_o0 | exact zm_o _ _ _ rfl) (by omega) (by omega) ?_
            refine zw_aload_n 143 rfl dX11_spreads_142 rfl ?_
            refine zw_getr 146 rfl dX11_spreads_143 fl_X11_49 (by first | assumption | exact zm_o0 | exact zm_o _ _ _ rfl) (by first | assumption | exact zm_f _ _ rfl) ?_
            refine zw_sipush 149 rfl dX11_spreads_146 rfl ?_
            refine zw_iload_n 150 rfl dX11_spreads_149 rfl ?_
            refine zw_imul 151 rfl dX11_spreads_150 ?_
            refine zw_aload_n 152 rfl dX11_spreads_151 rfl ?_
            refine zw_iload 154 rfl dX11_spreads_152 rfl ?_
            refine zw_cVi1 157 rfl dX11_spreads_154 kX11_spreads_234 (Nat.le_of_ble_eq_true rfl) (by first | assumption | exact zm_o0 | exact zm_o _ _ _ rfl) (m_nodeOf l3 hm (by omega) (by omega) hv hs hr) ?_
            refine zw_iadd 158 rfl dX11_spreads_157 ?_
            refine zw_dup2_11 159 rfl dX11_spreads_158 rfl rfl ?_
            refine zw_lald 160 rfl dX11_spreads_159 (by first | assumption | exact zm_o0 | exact zm_o _ _ _ rfl) (by omega) (by omega) ?_
            rw [hix, zu_a _ _ (by omega)]
            refine zw_aload_n 161 rfl dX11_spreads_160 rfl ?_
            refine zw_iload_n 162 rfl dX11_spreads_161 rfl ?_
            refine zw_iload 164 rfl dX11_spreads_162 rfl ?_
            refine zw_cVi2 167 rfl dX11_spreads_164 kX11_spreads_237 (Nat.le_of_ble_eq_true rfl) (by first | assumption | exact zm_o0 | exact zm_o _ _ _ rfl) (m_partOf hsr3 l3 hm) ?_
            refine zw_aload_n 168 rfl dX11_spreads_167 rfl ?_
            refine zw_iload_n 169 rfl dX11_spreads_168 rfl ?_
            refine zw_iload 171 rfl dX11_spreads_169 rfl ?_
            refine zw_iload 173 rfl dX11_spreads_171 rfl ?_
            refine zw_cVi3 176 rfl dX11_spreads_173 kX11_spreads_182 (Nat.le_of_ble_eq_true rfl) (by first | assumption | exact zm_o0 | exact zm_o _ _ _ rfl) (m_dotP hps3 (by omega) (by omega)) ?_
            refine zw_i2l 177 rfl dX11_spreads_176 (by omega) ?_
            refine zw_lmul 178 rfl dX11_spreads_177 ?_
            refine zw_ladd 179 rfl dX11_spreads_178 ?_
            refine zw_last 180 rfl dX11_spreads_179 (by first | assumption | exact zm_o0 | exact zm_o _ _ _ rfl) (by omega) (by omega) ?_
            refine zw_iinc 183 rfl dX11_spreads_180 (Nat.le_of_ble_eq_true rfl) rfl rfl ?_
            refine zw_goto 108 dX11_spreads_183 (by decide) ?_
            rw [hix]
            refine ih _ ⟨(h3.1.u (Or.inl rfl) hnr.1).u (Or.inr rfl) hnr.1, fun n hn => ?_⟩
            have h4 := h3.2 n hn
            rw [zS_s, zS_s]
            by_cases q : n = mNd i j (Q.2.2 i j) s r m
            · rw [if_pos q, ← q, zu_a _ _ (by omega), zu_eq, zu_eq, h4.1, h4.2]
              refine ⟨by omega, ?_⟩
              rw [Int.mul_comm (P.2.2 i j) (mPt i j (Q.2.2 i j) s r m)]; omega
            · rw [if_neg q, zu_ne _ _ (by omega), zu_ne _ _ (by omega), zu_ne _ _ (by omega), zu_ne _ _ (by omega), Int.mul_zero, Int.add_zero, Int.add_zero]; exact h4
      refine zw_iload 79 rfl dX11_spreads_77 rfl ?_
      refine zw_aload_n 80 rfl dX11_spreads_79 rfl ?_
      refine zw_iload_n 81 rfl dX11_spreads_80 rfl ?_
      refine zw_cVi1 84 rfl dX11_spreads_81 kX11_spreads_170 (Nat.le_of_ble_eq_true rfl) (by first | assumption | exact zm_o0 | exact zm_o _ _ _ rfl) (m_wideP hps) ?_
      refine zw_icmp_ge 192 87 rfl dX11_spreads_84 (by decide) (by omega) (by omega) (fun h_84 => ?_) (fun h_84 => ?_)
      · omega
      · refine zw_aload_n 88 rfl dX11_spreads_87 rfl ?_
        refine zw_iload_n 89 rfl dX11_spreads_88 rfl ?_
        refine zw_iload 91 rfl dX11_spreads_89 rfl ?_
        refine zw_iload 93 rfl dX11_spreads_91 rfl ?_
        refine zw_aload_n 94 rfl dX11_spreads_93 rfl ?_
        refine zw_iload_n 95 rfl dX11_spreads_94 rfl ?_
        refine zw_iload 97 rfl dX11_spreads_95 rfl ?_
        refine zw_iload 99 rfl dX11_spreads_97 rfl ?_
        refine zw_cVi3 102 rfl dX11_spreads_99 kX11_spreads_182 (Nat.le_of_ble_eq_true rfl) (by first | assumption | exact zm_o0 | exact zm_o _ _ _ rfl) (m_dotP hqs (by omega) (by omega)) ?_
        refine zw_cVr4 105 rfl dX11_spreads_102 kX11_spreads_231 (Nat.le_of_ble_eq_true rfl) (by first | assumption | exact zm_o0 | exact zm_o _ _ _ rfl) (m_lies hsr (by omega) (by omega) hv) ?_
        rintro _ _ ⟨rfl, σ3, rfl, hf3, hl3⟩
        refine zw_iconst 106 rfl dX11_spreads_105 ?_
        refine zw_istore 108 rfl dX11_spreads_106 (Nat.le_of_ble_eq_true rfl) rfl ?_
        exact K σ3 (fun b j hb => by rw [hf3 b j hb]; exact h1 b j hb) hl3 τs ⟨h2.1, fun n hn => by rw [zS_0, zS_0, Int.add_zero, Int.add_zero]; exact h2.2 n hn⟩
    · intro j hj hO
      intro σs τs h1 h2
      have hps : mPc C σs of P := hp.f (fun j => by rw [h1 _ _ (by omega), zu_a _ _ (by omega), zu_a _ _ (by omega)])
      have hqs : mPc C σs gu Q := hq.f (fun j => by rw [h1 _ _ (by omega), zu_a _ _ (by omega), zu_a _ _ (by omega)])
      refine zw_iload 79 rfl dX11_spreads_77 rfl ?_
      refine zw_aload_n 80 rfl dX11_spreads_79 rfl ?_
      refine zw_iload_n 81 rfl dX11_spreads_80 rfl ?_
      refine zw_cVi1 84 rfl dX11_spreads_81 kX11_spreads_170 (Nat.le_of_ble_eq_true rfl) (by first | assumption | exact zm_o0 | exact zm_o _ _ _ rfl) (m_wideP hps) ?_
      refine zw_icmp_ge 192 87 rfl dX11_spreads_84 (by decide) (by omega) (by omega) (fun h_84 => ?_) (fun h_84 => ?_)
      · refine zw_iinc 195 rfl dX11_spreads_192 (Nat.le_of_ble_eq_true rfl) rfl rfl ?_
        refine zw_goto 64 dX11_spreads_195 (by decide) ?_
        refine zw_drop 7 ?_
        exact hO σs τs h1 h2
      · omega
  -- all nodes weigh nothing
  have zero : ∀ τs : zSt, mTF C g τ τs → (∀ n, n < 0 → τs (C + 11) (17043 * g + n) = 0 ∧ τs (C + 12) (17043 * g + n) = 0) → zW G M_X11_spreads (fun u w' => u = none ∧ ∃ σ' τ' : zSt, w' = (zmS C, σ', τ') ∧ mSpr C g σ σ' τ τ' (aSmG P Q s r 0)) 19 [some (.ref C), some (vi (g : Int)), some (vi of), some (vi gu), some (vi s), some (vi r), some (vi (0 : Nat)), none, none] [] (zmS C, (zu (zu σ (C + 15) g s) (C + 16) g r), τs) := by
    refine zloop (n := 17043) (L := fun k => ∀ τs : zSt, mTF C g τ τs → (∀ n, n < k → τs (C + 11) (17043 * g + n) = 0 ∧ τs (C + 12) (17043 * g + n) = 0) → zW G M_X11_spreads (fun u w' => u = none ∧ ∃ σ' τ' : zSt, w' = (zmS C, σ', τ') ∧ mSpr C g σ σ' τ τ' (aSmG P Q s r 0)) 19 [some (.ref C), some (vi (g : Int)), some (vi of), some (vi gu), some (vi s), some (vi r), some (vi k), none, none] [] (zmS C, (zu (zu σ (C + 15) g s) (C + 16) g r), τs)) ?_ ?_
    · intro τs h1 h2
      refine zw_iload 21 rfl dX11_spreads_19 rfl ?_
      refine zw_sipush 24 rfl dX11_spreads_21 rfl ?_
      refine zw_icmp_ge 61 27 rfl dX11_spreads_24 (by decide) (by omega) (by omega) (fun h_24 => ?_) (fun h_24 => ?_)
      · refine zw_iconst 62 rfl dX11_spreads_61 ?_
        refine zw_istore 64 rfl dX11_spreads_62 (Nat.le_of_ble_eq_true rfl) rfl ?_
        exact dots _ τs (fun _ _ _ => rfl) ⟨h1, h2⟩
      · exfalso; omega
    · intro k hk ih τs h1 h2
      refine zw_iload 21 rfl dX11_spreads_19 rfl ?_
      refine zw_sipush 24 rfl dX11_spreads_21 rfl ?_
      refine zw_icmp_ge 61 27 rfl dX11_spreads_24 (by decide) (by omega) (by omega) (fun h_24 => ?_) (fun h_24 => ?_)
      · exfalso; omega
      · refine zw_aload_n 28 rfl dX11_spreads_27 rfl ?_
        refine zw_getr 31 rfl dX11_spreads_28 fl_X11_45 (by first | assumption | exact zm_o0 | exact zm_o _ _ _ rfl) (by first | assumption | exact zm_f _ _ rfl) ?_
        refine zw_sipush 34 rfl dX11_spreads_31 rfl ?_
        refine zw_iload_n 35 rfl dX11_spreads_34 rfl ?_
        refine zw_imul 36 rfl dX11_spreads_35 ?_
        refine zw_iload 38 rfl dX11_spreads_36 rfl ?_
        refine zw_iadd 39 rfl dX11_spreads_38 ?_
        refine zw_lconst 40 rfl dX11_spreads_39 ?_
        refine zw_last 41 rfl dX11_spreads_40 (by first | assumption | exact zm_o0 | exact zm_o _ _ _ rfl) (by omega) (by omega) ?_
        refine zw_aload_n 42 rfl dX11_spreads_41 rfl ?_
        refine zw_getr 45 rfl dX11_spreads_42 fl_X11_49 (by first | assumption | exact zm_o0 | exact zm_o _ _ _ rfl) (by first | assumption | exact zm_f _ _ rfl) ?_
        refine zw_sipush 48 rfl dX11_spreads_45 rfl ?_
        refine zw_iload_n 49 rfl dX11_spreads_48 rfl ?_
        refine zw_imul 50 rfl dX11_spreads_49 ?_
        refine zw_iload 52 rfl dX11_spreads_50 rfl ?_
        refine zw_iadd 53 rfl dX11_spreads_52 ?_
        refine zw_lconst 54 rfl dX11_spreads_53 ?_
        refine zw_last 55 rfl dX11_spreads_54 (by first | assumption | exact zm_o0 | exact zm_o _ _ _ rfl) (by omega) (by omega) ?_
        refine zw_iinc 58 rfl dX11_spreads_55 (Nat.le_of_ble_eq_true rfl) rfl rfl ?_
        refine zw_goto 19 dX11_spreads_58 (by decide) ?_
        rw [show (17043 * (g : Int) + (k : Int)).toNat = 17043 * g + k by omega]
        refine ih _ ((h1.u (Or.inl rfl) hk).u (Or.inr rfl) hk) (fun n hn => ?_)
        by_cases q : n = k
        · subst q; rw [zu_eq, zu_a _ _ (by omega), zu_eq]; exact ⟨rfl, rfl⟩
        · rw [zu_ne _ _ (by omega), zu_ne _ _ (by omega), zu_ne _ _ (by omega), zu_ne _ _ (by omega)]; exact h2 n (by omega)
  refine zw_aload_n 1 rfl dX11_spreads_0 rfl ?_
  refine zw_getr 4 rfl dX11_spreads_1 fl_X11_58 (by first | assumption | exact zm_o0 | exact zm_o _ _ _ rfl) (by first | assumption | exact zm_f _ _ rfl) ?_
  refine zw_iload_n 5 rfl dX11_spreads_4 rfl ?_
  refine zw_iload 7 rfl dX11_spreads_5 rfl ?_
  refine zw_iast 8 rfl dX11_spreads_7 (by first | assumption | exact zm_o0 | exact zm_o _ _ _ rfl) (by omega) (by omega) ?_
  refine zw_aload_n 9 rfl dX11_spreads_8 rfl ?_
  refine zw_getr 12 rfl dX11_spreads_9 fl_X11_61 (by first | assumption | exact zm_o0 | exact zm_o _ _ _ rfl) (by first | assumption | exact zm_f _ _ rfl) ?_
  refine zw_iload_n 13 rfl dX11_spreads_12 rfl ?_
  refine zw_iload 15 rfl dX11_spreads_13 rfl ?_
  refine zw_iast 16 rfl dX11_spreads_15 (by first | assumption | exact zm_o0 | exact zm_o _ _ _ rfl) (by omega) (by omega) ?_
  refine zw_iconst 17 rfl dX11_spreads_16 ?_
  refine zw_istore 19 rfl dX11_spreads_17 (Nat.le_of_ble_eq_true rfl) rfl ?_
  rw [Int.toNat_natCast]
  exact zero τ (fun _ _ _ => rfl) (fun n hn => absurd hn (by omega))
