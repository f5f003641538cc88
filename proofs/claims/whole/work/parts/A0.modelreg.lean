/-! ===== regions in the model ===== -/
def mRG (C : Nat) (σ1 : zSt) (p : zPc) (s : zRg) (σs : zSt) : Prop := (∀ b j, b ≠ C + 20 → b ≠ C + 21 → σs b j = σ1 b j) ∧ (∀ x y, aIn p x y → σs (C + 20) (16 * y + x).toNat = s.1 x y) ∧ (∀ k : Nat, k < 192 → ¬ aIn p ((k : Int) % 16) ((k : Int) / 16) → σs (C + 20) k = -1) ∧ ∀ k, k < s.2.length → σs (C + 21) k = 16 * (s.2.getD k (0, 0)).2 + (s.2.getD k (0, 0)).1
theorem mSc2.rgn {C : Nat} {σ σ' : zSt} (h : ∀ b j, b ≠ C + 20 → b ≠ C + 21 → σ' b j = σ b j) : mSc2 C σ σ' := fun b j hk => h b j (by unfold mKey2 mKey at hk; omega) (by unfold mKey2 mKey at hk; omega)
theorem mRG.put {C : Nat} {σ1 σs : zSt} {p : zPc} {s : zRg} {num x y : Int} (hg : mRG C σ1 p s σs) (hp : (1 ≤ p.1 ∧ p.1 ≤ 16) ∧ 1 ≤ p.2.1 ∧ p.2.1 ≤ 12) (hi : aIn p x y) (hl : s.2.length < 192) : mRG C σ1 p ((fun a b => if a = x ∧ b = y then num else s.1 a b), s.2 ++ [(x, y)]) (zu (zu σs (C + 20) (16 * y + x).toNat num) (C + 21) s.2.length (16 * y + x)) := by
  obtain ⟨a1, a2, a3, a4⟩ := hg
  refine ⟨fun b j h1 h2 => by rw [zu_a _ _ h2, zu_a _ _ h1]; exact a1 b j h1 h2, fun c d hcd => ?_, fun k hk hn => ?_, fun k hk => ?_⟩
  · rw [zu_a _ _ (by omega)]
    show _ = if c = x ∧ d = y then num else s.1 c d
    by_cases e : c = x ∧ d = y
    · rw [if_pos e, e.1, e.2, zu_eq]
    · rw [if_neg e, zu_k _ _ (fun q => e (by omega))]
      exact a2 c d hcd
  · rw [zu_a _ _ (by omega), zu_k _ _ (fun q => hn ?_)]
    · exact a3 k hk hn
    · subst q
      rw [show (((16 * y + x).toNat : Nat) : Int) = 16 * y + x by omega, show (16 * y + x) % 16 = x by omega, show (16 * y + x) / 16 = y by omega]
      exact hi
  · simp only [List.length_append, List.length_cons, List.length_nil] at hk
    by_cases e : k = s.2.length
    · subst e
      rw [zu_eq]; simp
    · rw [zu_k _ _ e, zu_a _ _ (by omega)]
      have : (s.2 ++ [(x, y)]).getD k (0, 0) = s.2.getD k (0, 0) := by simp [List.getD, List.getElem?_append_left (show k < s.2.length by omega)]
      rw [this]
      exact a4 k (by omega)
theorem rI.len {p : zPc} {num : Int} {s : zRg} (h : rI p num s) (hp : (1 ≤ p.1 ∧ p.1 ≤ 16) ∧ 1 ≤ p.2.1 ∧ p.2.1 ≤ 12) : s.2.length ≤ 192 := by
  have h2 := (rcnt_le (p := p) (num := num) (R := s.1) (by omega)).2
  have h3 := zz_wh (w := p.1) (h := p.2.1) (by omega) (by omega)
  rw [Int.mul_comm] at h2
  have := h.1
  omega
theorem m_isNear {G : zG} {C : Nat} {σ τ : zSt} {p a b t x y u v : Int} {q : zPc} (h : mPc C σ p q) (h1 : aIn q x y) (h2 : aIn q u v) (ha : a = 16 * y + x) (hb : b = 16 * v + u) (ht : 0 ≤ t ∧ t ≤ 255) : zC G M_X11_isNear [.ref C, vi p, vi a, vi b, vi t] (zmS C, σ, τ) (zR (some (vi (zb (zab (q.2.2 x y - q.2.2 u v) ≤ t)))) (zmS C, σ, τ)) := by
  have hw := h.wh
  have d1 := h.d h1.1 h1.2
  have d2 := h.d h2.1 h2.2
  have e1 : a % 16 = x := by omega
  have e2 : a / 16 = y := by omega
  have e3 : b % 16 = u := by omega
  have e4 : b / 16 = v := by omega
  refine zC_of 1 rfl (Nat.le_of_ble_eq_true rfl) ?_
  refine zw_aload_n 1 rfl dX11_isNear_0 rfl ?_
  refine zw_iload_n 2 rfl dX11_isNear_1 rfl ?_
  refine zw_iload_n 3 rfl dX11_isNear_2 rfl ?_
  refine zw_bipush 5 rfl dX11_isNear_3 rfl ?_
  refine zw_irem 6 rfl dX11_isNear_5 (by omega) (by omega) ?_
  rw [e1]
  refine zw_iload_n 7 rfl dX11_isNear_6 rfl ?_
  refine zw_bipush 9 rfl dX11_isNear_7 rfl ?_
  refine zw_idiv 10 rfl dX11_isNear_9 (by omega) (by omega) ?_
  rw [e2]
  refine zw_cVi3 13 rfl dX11_isNear_10 kX11_isNear_182 (Nat.le_of_ble_eq_true rfl) (by first | assumption | exact zm_o0 | exact zm_o _ _ _ rfl) (m_dotP h h1.1 h1.2) ?_
  refine zw_aload_n 14 rfl dX11_isNear_13 rfl ?_
  refine zw_iload_n 15 rfl dX11_isNear_14 rfl ?_
  refine zw_iload_n 16 rfl dX11_isNear_15 rfl ?_
  refine zw_bipush 18 rfl dX11_isNear_16 rfl ?_
  refine zw_irem 19 rfl dX11_isNear_18 (by omega) (by omega) ?_
  rw [e3]
  refine zw_iload_n 20 rfl dX11_isNear_19 rfl ?_
  refine zw_bipush 22 rfl dX11_isNear_20 rfl ?_
  refine zw_idiv 23 rfl dX11_isNear_22 (by omega) (by omega) ?_
  rw [e4]
  refine zw_cVi3 26 rfl dX11_isNear_23 kX11_isNear_182 (Nat.le_of_ble_eq_true rfl) (by first | assumption | exact zm_o0 | exact zm_o _ _ _ rfl) (m_dotP h h2.1 h2.2) ?_
  refine zw_isub 27 rfl dX11_isNear_26 ?_
  refine zw_istore 29 rfl dX11_isNear_27 (Nat.le_of_ble_eq_true rfl) rfl ?_
  refine zw_iload 31 rfl dX11_isNear_29 rfl ?_
  refine zw_iload 33 rfl dX11_isNear_31 rfl ?_
  refine zw_icmp_gt 48 36 rfl dX11_isNear_33 (by decide) (by omega) (by omega) (fun h_33 => ?_) (fun h_33 => ?_)
  · refine zw_iconst 49 rfl dX11_isNear_48 ?_
    exact zw_zretR dX11_isNear_49 rfl (by omega) (by unfold zab; first | exact zb_t (by split <;> omega) | exact zb_f (by split <;> omega)) rfl
  · refine zw_iload 38 rfl dX11_isNear_36 rfl ?_
    refine zw_ineg 39 rfl dX11_isNear_38 ?_
    refine zw_iload 41 rfl dX11_isNear_39 rfl ?_
    refine zw_icmp_gt 48 44 rfl dX11_isNear_41 (by decide) (by omega) (by omega) (fun h_41 => ?_) (fun h_41 => ?_)
    · refine zw_iconst 49 rfl dX11_isNear_48 ?_
      exact zw_zretR dX11_isNear_49 rfl (by omega) (by unfold zab; first | exact zb_t (by split <;> omega) | exact zb_f (by split <;> omega)) rfl
    · refine zw_iconst 45 rfl dX11_isNear_44 ?_
      refine zw_goto 49 dX11_isNear_45 (by decide) ?_
      exact zw_zretR dX11_isNear_49 rfl (by omega) (by unfold zab; first | exact zb_t (by split <;> omega) | exact zb_f (by split <;> omega)) rfl
theorem zab_sub (a b : Int) : zab (a - b) = zab (b - a) := by unfold zab; (repeat' split) <;> omega
theorem rIf_w {q : zPc} {num t st a b d : Int} {s : zRg} (h1 : aIn q a b → st = zab d) (h2 : ¬ aIn q a b → st = -1) : rIf q num t st a b s = if (aIn q a b ∧ s.1 a b = -1) ∧ zab d ≤ t then ((fun c e => if c = a ∧ e = b then num else s.1 c e), s.2 ++ [(a, b)]) else s := by
  unfold rIf rEnt
  by_cases hi : aIn q a b
  · have e := h1 hi
    have hz : 0 ≤ zab d := by unfold zab; split <;> omega
    by_cases ht : zab d ≤ t
    · rw [if_pos (by omega)]
      by_cases hs : s.1 a b = -1
      · rw [if_pos ⟨hi, hs⟩, if_pos ⟨⟨hi, hs⟩, ht⟩]
      · rw [if_neg (fun u => hs u.2), if_neg (fun u => hs u.1.2)]
    · rw [if_neg (by omega), if_neg (fun u => ht u.2)]
  · have e := h2 hi
    rw [if_neg (by omega), if_neg (fun u => hi u.1.1)]
theorem rIf_w0 {q : zPc} {num t x y : Int} {s : zRg} (h : aIn q x y) : rIf q num t (zStR q x y) (x + 1) y s = if (aIn q (x + 1) y ∧ s.1 (x + 1) y = -1) ∧ zab (q.2.2 x y - q.2.2 (x + 1) y) ≤ t then ((fun c e => if c = x + 1 ∧ e = y then num else s.1 c e), s.2 ++ [(x + 1, y)]) else s :=
  rIf_w (fun u => by unfold zStR; rw [if_pos (by omega)]) (fun u => by unfold zStR; rw [if_neg (by omega)])
theorem rIf_w1 {q : zPc} {num t x y : Int} {s : zRg} (h : aIn q x y) : rIf q num t (zStR q (x - 1) y) (x - 1) y s = if (aIn q (x - 1) y ∧ s.1 (x - 1) y = -1) ∧ zab (q.2.2 x y - q.2.2 (x - 1) y) ≤ t then ((fun c e => if c = x - 1 ∧ e = y then num else s.1 c e), s.2 ++ [(x - 1, y)]) else s :=
  rIf_w (fun u => by unfold zStR; rw [if_pos (by omega), show x - 1 + 1 = x by omega, zab_sub]) (fun u => by unfold zStR; rw [if_neg (by omega)])
theorem rIf_w2 {q : zPc} {num t x y : Int} {s : zRg} (h : aIn q x y) : rIf q num t (zStD q x y) x (y + 1) s = if (aIn q x (y + 1) ∧ s.1 x (y + 1) = -1) ∧ zab (q.2.2 x y - q.2.2 x (y + 1)) ≤ t then ((fun c e => if c = x ∧ e = y + 1 then num else s.1 c e), s.2 ++ [(x, y + 1)]) else s :=
  rIf_w (fun u => by unfold zStD; rw [if_pos (by omega)]) (fun u => by unfold zStD; rw [if_neg (by omega)])
theorem rIf_w3 {q : zPc} {num t x y : Int} {s : zRg} (h : aIn q x y) : rIf q num t (zStD q x (y - 1)) x (y - 1) s = if (aIn q x (y - 1) ∧ s.1 x (y - 1) = -1) ∧ zab (q.2.2 x y - q.2.2 x (y - 1)) ≤ t then ((fun c e => if c = x ∧ e = y - 1 then num else s.1 c e), s.2 ++ [(x, y - 1)]) else s :=
  rIf_w (fun u => by unfold zStD; rw [if_pos (by omega), show y - 1 + 1 = y by omega, zab_sub]) (fun u => by unfold zStD; rw [if_neg (by omega)])
theorem rIf_same {p : zPc} {num t st x y : Int} {s : zRg} (h : rIf p num t st x y s = s) : rIf p num t st x y s = s := h
theorem rIf_len {p : zPc} {num t st x y : Int} {s : zRg} : s.2.length ≤ (rIf p num t st x y s).2.length := by
  unfold rIf rEnt
  (repeat' split) <;> simp
theorem rIf_get {p : zPc} {num t st x y : Int} {s : zRg} {k : Nat} (hk : k < s.2.length) : (rIf p num t st x y s).2.getD k (0, 0) = s.2.getD k (0, 0) := by
  unfold rIf rEnt
  (repeat' split) <;> simp [List.getD, List.getElem?_append_left hk]
theorem zu_comm {σ : zSt} {a b k j : Nat} {v w : Int} (h : a ≠ b) : zu (zu σ a k v) b j w = zu (zu σ b j w) a k v := by
  funext c d
  simp only [zu]
  by_cases h1 : c = a <;> by_cases h2 : c = b <;> simp_all
theorem m_fills {G : zG} {C : Nat} {σ τ : zSt} {σ1 : zSt} {p t f num x y : Int} {q : zPc} {s : zRg} (hq : mPc C σ1 p q) (hp5 : p ≤ 5) (hg0 : mRG C σ1 q s σ) (hs0 : s.2 = []) (hxy0 : aIn q x y) (hs1 : s.1 x y = -1) (hI0 : rI q num (rEnt q num x y s)) (hnum : 0 ≤ num ∧ num ≤ 192) (ht : 0 ≤ t ∧ t ≤ 255) (hf : f = 16 * y + x) : zC G M_X11_fills [.ref C, vi p, vi t, vi f, vi num] (zmS C, σ, τ) (fun r w' => r = none ∧ ∃ σ' : zSt, w' = (zmS C, σ', τ) ∧ mRG C σ1 q (rFl q num t 192 0 (rEnt q num x y s)) σ') := by
  have hw := hq.wh
  refine zC_of 6 rfl (Nat.le_of_ble_eq_true rfl) ?_
  have way0 : ∀ (k : Nat) (s' : zRg) (σs : zSt) (x0 y0 : Int), mRG C σ1 q s' σs → rI q num s' → k < s'.2.length → s'.2.getD k (0, 0) = (x0, y0) → ∀ Q : Option Value → zWd → Prop, (∀ σ2 : zSt, mRG C σ1 q (rIf q num t (zStR q x0 y0) (x0 + 1) (y0) s') σ2 → rI q num (rIf q num t (zStR q x0 y0) (x0 + 1) (y0) s') → k < (rIf q num t (zStR q x0 y0) (x0 + 1) (y0) s').2.length → (rIf q num t (zStR q x0 y0) (x0 + 1) (y0) s').2.getD k (0, 0) = (x0, y0) → zW G M_X11_fills Q 31 [some (.ref C), some (vi p), some (vi t), some (vi f), some (vi num), some (vi ((rIf q num t (zStR q x0 y0) (x0 + 1) (y0) s').2.length : Int)), some (vi k), some (vi 1), none, none, none] [] (zmS C, σ2, τ)) → zW G M_X11_fills Q 31 [some (.ref C), some (vi p), some (vi t), some (vi f), some (vi num), some (vi (s'.2.length : Int)), some (vi k), some (vi 0), none, none, none] [] (zmS C, σs, τ) := by
    intro k s' σs x0 y0 hg hI hk hgd Q kk
    have hqs : mPc C σs p q := hq.s (by omega) (mSc2.rgn hg.1)
    have hxy : aIn q x0 y0 := by have := hI.2.1 (s'.2.getD k (0, 0)) (by rw [List.getD_eq_getElem?_getD, List.getElem?_eq_getElem hk]; simp); rw [hgd] at this; exact this
    have hqk : σs (C + 21) k = 16 * y0 + x0 := by have := hg.2.2.2 k hk; rw [hgd] at this; exact this
    have hm : (16 * y0 + x0) % 16 = x0 := by omega
    have hdv : (16 * y0 + x0) / 16 = y0 := by omega
    have hlen := hI.len hw
    have hst := rIf_w0 (q := q) (num := num) (t := t) (s := s') hxy
    have hk' : k < (rIf q num t (zStR q x0 y0) (x0 + 1) (y0) s').2.length := Nat.lt_of_lt_of_le hk rIf_len
    have hgd' : (rIf q num t (zStR q x0 y0) (x0 + 1) (y0) s').2.getD k (0, 0) = (x0, y0) := by rw [rIf_get hk]; exact hgd
    refine zw_iload 33 rfl dX11_fills_31 rfl ?_
    refine zw_iconst 34 rfl dX11_fills_33 ?_
    refine zw_icmp_ge 208 37 rfl dX11_fills_34 (by decide) (by omega) (by omega) (fun h_34 => ?_) (fun h_34 => ?_)
    · exfalso; omega
    · refine zw_aload_n 38 rfl dX11_fills_37 rfl ?_
      refine zw_getr 41 rfl dX11_fills_38 fl_X11_76 (by first | assumption | exact zm_o0 | exact zm_o _ _ _ rfl) (by first | assumption | exact zm_f _ _ rfl) ?_
      refine zw_iload 43 rfl dX11_fills_41 rfl ?_
      refine zw_iald 44 rfl dX11_fills_43 (by first | assumption | exact zm_o0 | exact zm_o _ _ _ rfl) (by omega) (by omega) ?_
      rw [Int.toNat_natCast, hqk]
      refine zw_bipush 46 rfl dX11_fills_44 rfl ?_
      refine zw_irem 47 rfl dX11_fills_46 (by omega) (by omega) ?_
      rw [hm]
      refine zw_iload 49 rfl dX11_fills_47 rfl ?_
      refine zw_if_ne 56 52 rfl dX11_fills_49 (by decide) (by omega) (fun h_49 => ?_) (fun h_49 => ?_)
      · exfalso; omega
      · refine zw_iconst 53 rfl dX11_fills_52 ?_
        refine zw_goto 67 dX11_fills_53 (by decide) ?_
        refine zw_iadd 68 rfl dX11_fills_67 ?_
        skip
        refine zw_istore 70 rfl dX11_fills_68 (Nat.le_of_ble_eq_true rfl) rfl ?_
        refine zw_aload_n 71 rfl dX11_fills_70 rfl ?_
        refine zw_getr 74 rfl dX11_fills_71 fl_X11_76 (by first | assumption | exact zm_o0 | exact zm_o _ _ _ rfl) (by first | assumption | exact zm_f _ _ rfl) ?_
        refine zw_iload 76 rfl dX11_fills_74 rfl ?_
        refine zw_iald 77 rfl dX11_fills_76 (by first | assumption | exact zm_o0 | exact zm_o _ _ _ rfl) (by omega) (by omega) ?_
        rw [Int.toNat_natCast, hqk]
        refine zw_bipush 79 rfl dX11_fills_77 rfl ?_
        refine zw_idiv 80 rfl dX11_fills_79 (by omega) (by omega) ?_
        rw [hdv]
        refine zw_iload 82 rfl dX11_fills_80 rfl ?_
        refine zw_iconst 83 rfl dX11_fills_82 ?_
        refine zw_icmp_ne 90 86 rfl dX11_fills_83 (by decide) (by omega) (by omega) (fun h_83 => ?_) (fun h_83 => ?_)
        · refine zw_iload 92 rfl dX11_fills_90 rfl ?_
          refine zw_iconst 93 rfl dX11_fills_92 ?_
          refine zw_icmp_ne 100 96 rfl dX11_fills_93 (by decide) (by omega) (by omega) (fun h_93 => ?_) (fun h_93 => ?_)
          · refine zw_iconst 101 rfl dX11_fills_100 ?_
            refine zw_iadd 102 rfl dX11_fills_101 ?_
            rw [Int.add_zero]
            refine zw_istore 104 rfl dX11_fills_102 (Nat.le_of_ble_eq_true rfl) rfl ?_
            refine zw_iload 106 rfl dX11_fills_104 rfl ?_
            refine zw_iconst 107 rfl dX11_fills_106 ?_
            refine zw_aload_n 108 rfl dX11_fills_107 rfl ?_
            refine zw_iload_n 109 rfl dX11_fills_108 rfl ?_
            refine zw_cVi1 112 rfl dX11_fills_109 kX11_fills_170 (Nat.le_of_ble_eq_true rfl) (by first | assumption | exact zm_o0 | exact zm_o _ _ _ rfl) (m_wideP hqs) ?_
            refine zw_iconst 113 rfl dX11_fills_112 ?_
            refine zw_isub 114 rfl dX11_fills_113 ?_
            refine zw_cSi3 117 rfl dX11_fills_114 kX11_fills_106 (Nat.le_of_ble_eq_true rfl) (m_in (by omega) (by omega) (by omega)) ?_
            refine zw_if_eqB 202 120 rfl dX11_fills_117 (by decide) (fun h_117 => ?_) (fun h_117 => ?_)
            · refine zw_iinc 205 rfl dX11_fills_202 (Nat.le_of_ble_eq_true rfl) rfl rfl ?_
              refine zw_goto 31 dX11_fills_205 (by decide) ?_
              refine zw_drop 8 ?_
              refine zw_drop 9 ?_
              try refine zw_drop 10 ?_
              first
              | (have hyes := hst
                 rw [if_pos ⟨⟨hin, h_157⟩, h_175⟩] at hyes
                 have hle : ((rIf q num t (zStR q x0 y0) (x0 + 1) (y0) s').2.length : Int) = (s'.2.length : Int) + 1 := by rw [hyes]; simp
                 have k2 := kk _ (by rw [hyes]; exact hg.put hw hin (by omega)) (hI.rif hnum) hk' hgd'
                 rw [hle] at k2
                 exact k2)
              | (rw [rIf_same (p := q) (num := num) (t := t) (s := s') (by rw [hst]; first | exact if_neg (fun u => h_175 u.2) | exact if_neg (fun u => h_157 u.1.2) | exact if_neg (fun u => h_133 (by have := u.1.1; omega)) | exact if_neg (fun u => h_117 (by have := u.1.1; omega)))] at kk
                 exact kk _ hg hI hk hgd)
            · refine zw_iload 122 rfl dX11_fills_120 rfl ?_
              refine zw_iconst 123 rfl dX11_fills_122 ?_
              refine zw_aload_n 124 rfl dX11_fills_123 rfl ?_
              refine zw_iload_n 125 rfl dX11_fills_124 rfl ?_
              refine zw_cVi1 128 rfl dX11_fills_125 kX11_fills_176 (Nat.le_of_ble_eq_true rfl) (by first | assumption | exact zm_o0 | exact zm_o _ _ _ rfl) (m_highP hqs) ?_
              refine zw_iconst 129 rfl dX11_fills_128 ?_
              refine zw_isub 130 rfl dX11_fills_129 ?_
              refine zw_cSi3 133 rfl dX11_fills_130 kX11_fills_106 (Nat.le_of_ble_eq_true rfl) (m_in (by omega) (by omega) (by omega)) ?_
              refine zw_if_neB 139 136 rfl dX11_fills_133 (by decide) (fun h_133 => ?_) (fun h_133 => ?_)
              · have hin : aIn q (x0 + 1) (y0) := by omega
                have hreg := hg.2.1 (x0 + 1) (y0) hin
                have hrr := hI.2.2 (x0 + 1) (y0)
                refine zw_bipush 141 rfl dX11_fills_139 rfl ?_
                refine zw_iload 143 rfl dX11_fills_141 rfl ?_
                refine zw_imul 144 rfl dX11_fills_143 ?_
                refine zw_iload 146 rfl dX11_fills_144 rfl ?_
                refine zw_iadd 147 rfl dX11_fills_146 ?_
                refine zw_istore 149 rfl dX11_fills_147 (Nat.le_of_ble_eq_true rfl) rfl ?_
                refine zw_aload_n 150 rfl dX11_fills_149 rfl ?_
                refine zw_getr 153 rfl dX11_fills_150 fl_X11_73 (by first | assumption | exact zm_o0 | exact zm_o _ _ _ rfl) (by first | assumption | exact zm_f _ _ rfl) ?_
                refine zw_iload 155 rfl dX11_fills_153 rfl ?_
                refine zw_iald 156 rfl dX11_fills_155 (by first | assumption | exact zm_o0 | exact zm_o _ _ _ rfl) (by omega) (by omega) ?_
                rw [hreg]
                refine zw_iconst 157 rfl dX11_fills_156 ?_
                refine zw_icmp_ne 202 160 rfl dX11_fills_157 (by decide) (by omega) (by omega) (fun h_157 => ?_) (fun h_157 => ?_)
                · refine zw_iinc 205 rfl dX11_fills_202 (Nat.le_of_ble_eq_true rfl) rfl rfl ?_
                  refine zw_goto 31 dX11_fills_205 (by decide) ?_
                  refine zw_drop 8 ?_
                  refine zw_drop 9 ?_
                  try refine zw_drop 10 ?_
                  first
                  | (have hyes := hst
                     rw [if_pos ⟨⟨hin, h_157⟩, h_175⟩] at hyes
                     have hle : ((rIf q num t (zStR q x0 y0) (x0 + 1) (y0) s').2.length : Int) = (s'.2.length : Int) + 1 := by rw [hyes]; simp
                     have k2 := kk _ (by rw [hyes]; exact hg.put hw hin (by omega)) (hI.rif hnum) hk' hgd'
                     rw [hle] at k2
                     exact k2)
                  | (rw [rIf_same (p := q) (num := num) (t := t) (s := s') (by rw [hst]; first | exact if_neg (fun u => h_175 u.2) | exact if_neg (fun u => h_157 u.1.2) | exact if_neg (fun u => h_133 (by have := u.1.1; omega)) | exact if_neg (fun u => h_117 (by have := u.1.1; omega)))] at kk
                     exact kk _ hg hI hk hgd)
                · have hlt := hI.room hw hnum.1 ⟨hin, h_157⟩
                  refine zw_aload_n 161 rfl dX11_fills_160 rfl ?_
                  refine zw_iload_n 162 rfl dX11_fills_161 rfl ?_
                  refine zw_aload_n 163 rfl dX11_fills_162 rfl ?_
                  refine zw_getr 166 rfl dX11_fills_163 fl_X11_76 (by first | assumption | exact zm_o0 | exact zm_o _ _ _ rfl) (by first | assumption | exact zm_f _ _ rfl) ?_
                  refine zw_iload 168 rfl dX11_fills_166 rfl ?_
                  refine zw_iald 169 rfl dX11_fills_168 (by first | assumption | exact zm_o0 | exact zm_o _ _ _ rfl) (by omega) (by omega) ?_
                  rw [Int.toNat_natCast, hqk]
                  refine zw_iload 171 rfl dX11_fills_169 rfl ?_
                  refine zw_iload_n 172 rfl dX11_fills_171 rfl ?_
                  refine zw_cVi4 175 rfl dX11_fills_172 kX11_fills_337 (Nat.le_of_ble_eq_true rfl) (by first | assumption | exact zm_o0 | exact zm_o _ _ _ rfl) (m_isNear hqs hxy hin (by omega) (by omega) ht) ?_
                  refine zw_if_neB 181 178 rfl dX11_fills_175 (by decide) (fun h_175 => ?_) (fun h_175 => ?_)
                  · refine zw_aload_n 182 rfl dX11_fills_181 rfl ?_
                    refine zw_getr 185 rfl dX11_fills_182 fl_X11_73 (by first | assumption | exact zm_o0 | exact zm_o _ _ _ rfl) (by first | assumption | exact zm_f _ _ rfl) ?_
                    refine zw_iload 187 rfl dX11_fills_185 rfl ?_
                    refine zw_iload 189 rfl dX11_fills_187 rfl ?_
                    refine zw_iast 190 rfl dX11_fills_189 (by first | assumption | exact zm_o0 | exact zm_o _ _ _ rfl) (by omega) (by omega) ?_
                    refine zw_aload_n 191 rfl dX11_fills_190 rfl ?_
                    refine zw_getr 194 rfl dX11_fills_191 fl_X11_76 (by first | assumption | exact zm_o0 | exact zm_o _ _ _ rfl) (by first | assumption | exact zm_f _ _ rfl) ?_
                    refine zw_iload 196 rfl dX11_fills_194 rfl ?_
                    refine zw_iload 198 rfl dX11_fills_196 rfl ?_
                    refine zw_iast 199 rfl dX11_fills_198 (by first | assumption | exact zm_o0 | exact zm_o _ _ _ rfl) (by omega) (by omega) ?_
                    rw [Int.toNat_natCast]
                    refine zw_iinc 202 rfl dX11_fills_199 (Nat.le_of_ble_eq_true rfl) rfl rfl ?_
                    refine zw_iinc 205 rfl dX11_fills_202 (Nat.le_of_ble_eq_true rfl) rfl rfl ?_
                    refine zw_goto 31 dX11_fills_205 (by decide) ?_
                    refine zw_drop 8 ?_
                    refine zw_drop 9 ?_
                    try refine zw_drop 10 ?_
                    first
                    | (have hyes := hst
                       rw [if_pos ⟨⟨hin, h_157⟩, h_175⟩] at hyes
                       have hle : ((rIf q num t (zStR q x0 y0) (x0 + 1) (y0) s').2.length : Int) = (s'.2.length : Int) + 1 := by rw [hyes]; simp
                       have k2 := kk _ (by rw [hyes]; exact hg.put hw hin (by omega)) (hI.rif hnum) hk' hgd'
                       rw [hle] at k2
                       exact k2)
                    | (rw [rIf_same (p := q) (num := num) (t := t) (s := s') (by rw [hst]; first | exact if_neg (fun u => h_175 u.2) | exact if_neg (fun u => h_157 u.1.2) | exact if_neg (fun u => h_133 (by have := u.1.1; omega)) | exact if_neg (fun u => h_117 (by have := u.1.1; omega)))] at kk
                       exact kk _ hg hI hk hgd)
                  · refine zw_goto 202 dX11_fills_178 (by decide) ?_
                    refine zw_iinc 205 rfl dX11_fills_202 (Nat.le_of_ble_eq_true rfl) rfl rfl ?_
                    refine zw_goto 31 dX11_fills_205 (by decide) ?_
                    refine zw_drop 8 ?_
                    refine zw_drop 9 ?_
                    try refine zw_drop 10 ?_
                    first
                    | (have hyes := hst
                       rw [if_pos ⟨⟨hin, h_157⟩, h_175⟩] at hyes
                       have hle : ((rIf q num t (zStR q x0 y0) (x0 + 1) (y0) s').2.length : Int) = (s'.2.length : Int) + 1 := by rw [hyes]; simp
                       have k2 := kk _ (by rw [hyes]; exact hg.put hw hin (by omega)) (hI.rif hnum) hk' hgd'
                       rw [hle] at k2
                       exact k2)
                    | (rw [rIf_same (p := q) (num := num) (t := t) (s := s') (by rw [hst]; first | exact if_neg (fun u => h_175 u.2) | exact if_neg (fun u => h_157 u.1.2) | exact if_neg (fun u => h_133 (by have := u.1.1; omega)) | exact if_neg (fun u => h_117 (by have := u.1.1; omega)))] at kk
                       exact kk _ hg hI hk hgd)
              · refine zw_goto 202 dX11_fills_136 (by decide) ?_
                refine zw_iinc 205 rfl dX11_fills_202 (Nat.le_of_ble_eq_true rfl) rfl rfl ?_
                refine zw_goto 31 dX11_fills_205 (by decide) ?_
                refine zw_drop 8 ?_
                refine zw_drop 9 ?_
                try refine zw_drop 10 ?_
                first
                | (have hyes := hst
                   rw [if_pos ⟨⟨hin, h_157⟩, h_175⟩] at hyes
                   have hle : ((rIf q num t (zStR q x0 y0) (x0 + 1) (y0) s').2.length : Int) = (s'.2.length : Int) + 1 := by rw [hyes]; simp
                   have k2 := kk _ (by rw [hyes]; exact hg.put hw hin (by omega)) (hI.rif hnum) hk' hgd'
                   rw [hle] at k2
                   exact k2)
                | (rw [rIf_same (p := q) (num := num) (t := t) (s := s') (by rw [hst]; first | exact if_neg (fun u => h_175 u.2) | exact if_neg (fun u => h_157 u.1.2) | exact if_neg (fun u => h_133 (by have := u.1.1; omega)) | exact if_neg (fun u => h_117 (by have := u.1.1; omega)))] at kk
                   exact kk _ hg hI hk hgd)
          · exfalso; omega
        · exfalso; omega
  have way1 : ∀ (k : Nat) (s' : zRg) (σs : zSt) (x0 y0 : Int), mRG C σ1 q s' σs → rI q num s' → k < s'.2.length → s'.2.getD k (0, 0) = (x0, y0) → ∀ Q : Option Value → zWd → Prop, (∀ σ2 : zSt, mRG C σ1 q (rIf q num t (zStR q (x0 - 1) y0) (x0 - 1) (y0) s') σ2 → rI q num (rIf q num t (zStR q (x0 - 1) y0) (x0 - 1) (y0) s') → k < (rIf q num t (zStR q (x0 - 1) y0) (x0 - 1) (y0) s').2.length → (rIf q num t (zStR q (x0 - 1) y0) (x0 - 1) (y0) s').2.getD k (0, 0) = (x0, y0) → zW G M_X11_fills Q 31 [some (.ref C), some (vi p), some (vi t), some (vi f), some (vi num), some (vi ((rIf q num t (zStR q (x0 - 1) y0) (x0 - 1) (y0) s').2.length : Int)), some (vi k), some (vi 2), none, none, none] [] (zmS C, σ2, τ)) → zW G M_X11_fills Q 31 [some (.ref C), some (vi p), some (vi t), some (vi f), some (vi num), some (vi (s'.2.length : Int)), some (vi k), some (vi 1), none, none, none] [] (zmS C, σs, τ) := by
    intro k s' σs x0 y0 hg hI hk hgd Q kk
    have hqs : mPc C σs p q := hq.s (by omega) (mSc2.rgn hg.1)
    have hxy : aIn q x0 y0 := by have := hI.2.1 (s'.2.getD k (0, 0)) (by rw [List.getD_eq_getElem?_getD, List.getElem?_eq_getElem hk]; simp); rw [hgd] at this; exact this
    have hqk : σs (C + 21) k = 16 * y0 + x0 := by have := hg.2.2.2 k hk; rw [hgd] at this; exact this
    have hm : (16 * y0 + x0) % 16 = x0 := by omega
    have hdv : (16 * y0 + x0) / 16 = y0 := by omega
    have hlen := hI.len hw
    have hst := rIf_w1 (q := q) (num := num) (t := t) (s := s') hxy
    have hk' : k < (rIf q num t (zStR q (x0 - 1) y0) (x0 - 1) (y0) s').2.length := Nat.lt_of_lt_of_le hk rIf_len
    have hgd' : (rIf q num t (zStR q (x0 - 1) y0) (x0 - 1) (y0) s').2.getD k (0, 0) = (x0, y0) := by rw [rIf_get hk]; exact hgd
    refine zw_iload 33 rfl dX11_fills_31 rfl ?_
    refine zw_iconst 34 rfl dX11_fills_33 ?_
    refine zw_icmp_ge 208 37 rfl dX11_fills_34 (by decide) (by omega) (by omega) (fun h_34 => ?_) (fun h_34 => ?_)
    · exfalso; omega
    · refine zw_aload_n 38 rfl dX11_fills_37 rfl ?_
      refine zw_getr 41 rfl dX11_fills_38 fl_X11_76 (by first | assumption | exact zm_o0 | exact zm_o _ _ _ rfl) (by first | assumption | exact zm_f _ _ rfl) ?_
      refine zw_iload 43 rfl dX11_fills_41 rfl ?_
      refine zw_iald 44 rfl dX11_fills_43 (by first | assumption | exact zm_o0 | exact zm_o _ _ _ rfl) (by omega) (by omega) ?_
      rw [Int.toNat_natCast, hqk]
      refine zw_bipush 46 rfl dX11_fills_44 rfl ?_
      refine zw_irem 47 rfl dX11_fills_46 (by omega) (by omega) ?_
      rw [hm]
      refine zw_iload 49 rfl dX11_fills_47 rfl ?_
      refine zw_if_ne 56 52 rfl dX11_fills_49 (by decide) (by omega) (fun h_49 => ?_) (fun h_49 => ?_)
      · refine zw_iload 58 rfl dX11_fills_56 rfl ?_
        refine zw_iconst 59 rfl dX11_fills_58 ?_
        refine zw_icmp_ne 66 62 rfl dX11_fills_59 (by decide) (by omega) (by omega) (fun h_59 => ?_) (fun h_59 => ?_)
        · exfalso; omega
        · refine zw_iconst 63 rfl dX11_fills_62 ?_
          refine zw_goto 67 dX11_fills_63 (by decide) ?_
          refine zw_iadd 68 rfl dX11_fills_67 ?_
          rw [show x0 + -1 = x0 - 1 by omega]
          refine zw_istore 70 rfl dX11_fills_68 (Nat.le_of_ble_eq_true rfl) rfl ?_
          refine zw_aload_n 71 rfl dX11_fills_70 rfl ?_
          refine zw_getr 74 rfl dX11_fills_71 fl_X11_76 (by first | assumption | exact zm_o0 | exact zm_o _ _ _ rfl) (by first | assumption | exact zm_f _ _ rfl) ?_
          refine zw_iload 76 rfl dX11_fills_74 rfl ?_
          refine zw_iald 77 rfl dX11_fills_76 (by first | assumption | exact zm_o0 | exact zm_o _ _ _ rfl) (by omega) (by omega) ?_
          rw [Int.toNat_natCast, hqk]
          refine zw_bipush 79 rfl dX11_fills_77 rfl ?_
          refine zw_idiv 80 rfl dX11_fills_79 (by omega) (by omega) ?_
          rw [hdv]
          refine zw_iload 82 rfl dX11_fills_80 rfl ?_
          refine zw_iconst 83 rfl dX11_fills_82 ?_
          refine zw_icmp_ne 90 86 rfl dX11_fills_83 (by decide) (by omega) (by omega) (fun h_83 => ?_) (fun h_83 => ?_)
          · refine zw_iload 92 rfl dX11_fills_90 rfl ?_
            refine zw_iconst 93 rfl dX11_fills_92 ?_
            refine zw_icmp_ne 100 96 rfl dX11_fills_93 (by decide) (by omega) (by omega) (fun h_93 => ?_) (fun h_93 => ?_)
            · refine zw_iconst 101 rfl dX11_fills_100 ?_
              refine zw_iadd 102 rfl dX11_fills_101 ?_
              rw [Int.add_zero]
              refine zw_istore 104 rfl dX11_fills_102 (Nat.le_of_ble_eq_true rfl) rfl ?_
              refine zw_iload 106 rfl dX11_fills_104 rfl ?_
              refine zw_iconst 107 rfl dX11_fills_106 ?_
              refine zw_aload_n 108 rfl dX11_fills_107 rfl ?_
              refine zw_iload_n 109 rfl dX11_fills_108 rfl ?_
              refine zw_cVi1 112 rfl dX11_fills_109 kX11_fills_170 (Nat.le_of_ble_eq_true rfl) (by first | assumption | exact zm_o0 | exact zm_o _ _ _ rfl) (m_wideP hqs) ?_
              refine zw_iconst 113 rfl dX11_fills_112 ?_
              refine zw_isub 114 rfl dX11_fills_113 ?_
              refine zw_cSi3 117 rfl dX11_fills_114 kX11_fills_106 (Nat.le_of_ble_eq_true rfl) (m_in (by omega) (by omega) (by omega)) ?_
              refine zw_if_eqB 202 120 rfl dX11_fills_117 (by decide) (fun h_117 => ?_) (fun h_117 => ?_)
              · refine zw_iinc 205 rfl dX11_fills_202 (Nat.le_of_ble_eq_true rfl) rfl rfl ?_
                refine zw_goto 31 dX11_fills_205 (by decide) ?_
                refine zw_drop 8 ?_
                refine zw_drop 9 ?_
                try refine zw_drop 10 ?_
                first
                | (have hyes := hst
                   rw [if_pos ⟨⟨hin, h_157⟩, h_175⟩] at hyes
                   have hle : ((rIf q num t (zStR q (x0 - 1) y0) (x0 - 1) (y0) s').2.length : Int) = (s'.2.length : Int) + 1 := by rw [hyes]; simp
                   have k2 := kk _ (by rw [hyes]; exact hg.put hw hin (by omega)) (hI.rif hnum) hk' hgd'
                   rw [hle] at k2
                   exact k2)
                | (rw [rIf_same (p := q) (num := num) (t := t) (s := s') (by rw [hst]; first | exact if_neg (fun u => h_175 u.2) | exact if_neg (fun u => h_157 u.1.2) | exact if_neg (fun u => h_133 (by have := u.1.1; omega)) | exact if_neg (fun u => h_117 (by have := u.1.1; omega)))] at kk
                   exact kk _ hg hI hk hgd)
              · refine zw_iload 122 rfl dX11_fills_120 rfl ?_
                refine zw_iconst 123 rfl dX11_fills_122 ?_
                refine zw_aload_n 124 rfl dX11_fills_123 rfl ?_
                refine zw_iload_n 125 rfl dX11_fills_124 rfl ?_
                refine zw_cVi1 128 rfl dX11_fills_125 kX11_fills_176 (Nat.le_of_ble_eq_true rfl) (by first | assumption | exact zm_o0 | exact zm_o _ _ _ rfl) (m_highP hqs) ?_
                refine zw_iconst 129 rfl dX11_fills_128 ?_
                refine zw_isub 130 rfl dX11_fills_129 ?_
                refine zw_cSi3 133 rfl dX11_fills_130 kX11_fills_106 (Nat.le_of_ble_eq_true rfl) (m_in (by omega) (by omega) (by omega)) ?_
                refine zw_if_neB 139 136 rfl dX11_fills_133 (by decide) (fun h_133 => ?_) (fun h_133 => ?_)
                · have hin : aIn q (x0 - 1) (y0) := by omega
                  have hreg := hg.2.1 (x0 - 1) (y0) hin
                  have hrr := hI.2.2 (x0 - 1) (y0)
                  refine zw_bipush 141 rfl dX11_fills_139 rfl ?_
                  refine zw_iload 143 rfl dX11_fills_141 rfl ?_
                  refine zw_imul 144 rfl dX11_fills_143 ?_
                  refine zw_iload 146 rfl dX11_fills_144 rfl ?_
                  refine zw_iadd 147 rfl dX11_fills_146 ?_
                  refine zw_istore 149 rfl dX11_fills_147 (Nat.le_of_ble_eq_true rfl) rfl ?_
                  refine zw_aload_n 150 rfl dX11_fills_149 rfl ?_
                  refine zw_getr 153 rfl dX11_fills_150 fl_X11_73 (by first | assumption | exact zm_o0 | exact zm_o _ _ _ rfl) (by first | assumption | exact zm_f _ _ rfl) ?_
                  refine zw_iload 155 rfl dX11_fills_153 rfl ?_
                  refine zw_iald 156 rfl dX11_fills_155 (by first | assumption | exact zm_o0 | exact zm_o _ _ _ rfl) (by omega) (by omega) ?_
                  rw [hreg]
                  refine zw_iconst 157 rfl dX11_fills_156 ?_
                  refine zw_icmp_ne 202 160 rfl dX11_fills_157 (by decide) (by omega) (by omega) (fun h_157 => ?_) (fun h_157 => ?_)
                  · refine zw_iinc 205 rfl dX11_fills_202 (Nat.le_of_ble_eq_true rfl) rfl rfl ?_
                    refine zw_goto 31 dX11_fills_205 (by decide) ?_
                    refine zw_drop 8 ?_
                    refine zw_drop 9 ?_
                    try refine zw_drop 10 ?_
                    first
                    | (have hyes := hst
                       rw [if_pos ⟨⟨hin, h_157⟩, h_175⟩] at hyes
                       have hle : ((rIf q num t (zStR q (x0 - 1) y0) (x0 - 1) (y0) s').2.length : Int) = (s'.2.length : Int) + 1 := by rw [hyes]; simp
                       have k2 := kk _ (by rw [hyes]; exact hg.put hw hin (by omega)) (hI.rif hnum) hk' hgd'
                       rw [hle] at k2
                       exact k2)
                    | (rw [rIf_same (p := q) (num := num) (t := t) (s := s') (by rw [hst]; first | exact if_neg (fun u => h_175 u.2) | exact if_neg (fun u => h_157 u.1.2) | exact if_neg (fun u => h_133 (by have := u.1.1; omega)) | exact if_neg (fun u => h_117 (by have := u.1.1; omega)))] at kk
                       exact kk _ hg hI hk hgd)
                  · have hlt := hI.room hw hnum.1 ⟨hin, h_157⟩
                    refine zw_aload_n 161 rfl dX11_fills_160 rfl ?_
                    refine zw_iload_n 162 rfl dX11_fills_161 rfl ?_
                    refine zw_aload_n 163 rfl dX11_fills_162 rfl ?_
                    refine zw_getr 166 rfl dX11_fills_163 fl_X11_76 (by first | assumption | exact zm_o0 | exact zm_o _ _ _ rfl) (by first | assumption | exact zm_f _ _ rfl) ?_
                    refine zw_iload 168 rfl dX11_fills_166 rfl ?_
                    refine zw_iald 169 rfl dX11_fills_168 (by first | assumption | exact zm_o0 | exact zm_o _ _ _ rfl) (by omega) (by omega) ?_
                    rw [Int.toNat_natCast, hqk]
                    refine zw_iload 171 rfl dX11_fills_169 rfl ?_
                    refine zw_iload_n 172 rfl dX11_fills_171 rfl ?_
                    refine zw_cVi4 175 rfl dX11_fills_172 kX11_fills_337 (Nat.le_of_ble_eq_true rfl) (by first | assumption | exact zm_o0 | exact zm_o _ _ _ rfl) (m_isNear hqs hxy hin (by omega) (by omega) ht) ?_
                    refine zw_if_neB 181 178 rfl dX11_fills_175 (by decide) (fun h_175 => ?_) (fun h_175 => ?_)
                    · refine zw_aload_n 182 rfl dX11_fills_181 rfl ?_
                      refine zw_getr 185 rfl dX11_fills_182 fl_X11_73 (by first | assumption | exact zm_o0 | exact zm_o _ _ _ rfl) (by first | assumption | exact zm_f _ _ rfl) ?_
                      refine zw_iload 187 rfl dX11_fills_185 rfl ?_
                      refine zw_iload 189 rfl dX11_fills_187 rfl ?_
                      refine zw_iast 190 rfl dX11_fills_189 (by first | assumption | exact zm_o0 | exact zm_o _ _ _ rfl) (by omega) (by omega) ?_
                      refine zw_aload_n 191 rfl dX11_fills_190 rfl ?_
                      refine zw_getr 194 rfl dX11_fills_191 fl_X11_76 (by first | assumption | exact zm_o0 | exact zm_o _ _ _ rfl) (by first | assumption | exact zm_f _ _ rfl) ?_
                      refine zw_iload 196 rfl dX11_fills_194 rfl ?_
                      refine zw_iload 198 rfl dX11_fills_196 rfl ?_
                      refine zw_iast 199 rfl dX11_fills_198 (by first | assumption | exact zm_o0 | exact zm_o _ _ _ rfl) (by omega) (by omega) ?_
                      rw [Int.toNat_natCast]
                      refine zw_iinc 202 rfl dX11_fills_199 (Nat.le_of_ble_eq_true rfl) rfl rfl ?_
                      refine zw_iinc 205 rfl dX11_fills_202 (Nat.le_of_ble_eq_true rfl) rfl rfl ?_
                      refine zw_goto 31 dX11_fills_205 (by decide) ?_
                      refine zw_drop 8 ?_
                      refine zw_drop 9 ?_
                      try refine zw_drop 10 ?_
                      first
                      | (have hyes := hst
                         rw [if_pos ⟨⟨hin, h_157⟩, h_175⟩] at hyes
                         have hle : ((rIf q num t (zStR q (x0 - 1) y0) (x0 - 1) (y0) s').2.length : Int) = (s'.2.length : Int) + 1 := by rw [hyes]; simp
                         have k2 := kk _ (by rw [hyes]; exact hg.put hw hin (by omega)) (hI.rif hnum) hk' hgd'
                         rw [hle] at k2
                         exact k2)
                      | (rw [rIf_same (p := q) (num := num) (t := t) (s := s') (by rw [hst]; first | exact if_neg (fun u => h_175 u.2) | exact if_neg (fun u => h_157 u.1.2) | exact if_neg (fun u => h_133 (by have := u.1.1; omega)) | exact if_neg (fun u => h_117 (by have := u.1.1; omega)))] at kk
                         exact kk _ hg hI hk hgd)
                    · refine zw_goto 202 dX11_fills_178 (by decide) ?_
                      refine zw_iinc 205 rfl dX11_fills_202 (Nat.le_of_ble_eq_true rfl) rfl rfl ?_
                      refine zw_goto 31 dX11_fills_205 (by decide) ?_
                      refine zw_drop 8 ?_
                      refine zw_drop 9 ?_
                      try refine zw_drop 10 ?_
                      first
                      | (have hyes := hst
                         rw [if_pos ⟨⟨hin, h_157⟩, h_175⟩] at hyes
                         have hle : ((rIf q num t (zStR q (x0 - 1) y0) (x0 - 1) (y0) s').2.length : Int) = (s'.2.length : Int) + 1 := by rw [hyes]; simp
                         have k2 := kk _ (by rw [hyes]; exact hg.put hw hin (by omega)) (hI.rif hnum) hk' hgd'
                         rw [hle] at k2
                         exact k2)
                      | (rw [rIf_same (p := q) (num := num) (t := t) (s := s') (by rw [hst]; first | exact if_neg (fun u => h_175 u.2) | exact if_neg (fun u => h_157 u.1.2) | exact if_neg (fun u => h_133 (by have := u.1.1; omega)) | exact if_neg (fun u => h_117 (by have := u.1.1; omega)))] at kk
                         exact kk _ hg hI hk hgd)
                · refine zw_goto 202 dX11_fills_136 (by decide) ?_
                  refine zw_iinc 205 rfl dX11_fills_202 (Nat.le_of_ble_eq_true rfl) rfl rfl ?_
                  refine zw_goto 31 dX11_fills_205 (by decide) ?_
                  refine zw_drop 8 ?_
                  refine zw_drop 9 ?_
                  try refine zw_drop 10 ?_
                  first
                  | (have hyes := hst
                     rw [if_pos ⟨⟨hin, h_157⟩, h_175⟩] at hyes
                     have hle : ((rIf q num t (zStR q (x0 - 1) y0) (x0 - 1) (y0) s').2.length : Int) = (s'.2.length : Int) + 1 := by rw [hyes]; simp
                     have k2 := kk _ (by rw [hyes]; exact hg.put hw hin (by omega)) (hI.rif hnum) hk' hgd'
                     rw [hle] at k2
                     exact k2)
                  | (rw [rIf_same (p := q) (num := num) (t := t) (s := s') (by rw [hst]; first | exact if_neg (fun u => h_175 u.2) | exact if_neg (fun u => h_157 u.1.2) | exact if_neg (fun u => h_133 (by have := u.1.1; omega)) | exact if_neg (fun u => h_117 (by have := u.1.1; omega)))] at kk
                     exact kk _ hg hI hk hgd)
            · exfalso; omega
          · exfalso; omega
      · exfalso; omega
  have way2 : ∀ (k : Nat) (s' : zRg) (σs : zSt) (x0 y0 : Int), mRG C σ1 q s' σs → rI q num s' → k < s'.2.length → s'.2.getD k (0, 0) = (x0, y0) → ∀ Q : Option Value → zWd → Prop, (∀ σ2 : zSt, mRG C σ1 q (rIf q num t (zStD q x0 y0) (x0) (y0 + 1) s') σ2 → rI q num (rIf q num t (zStD q x0 y0) (x0) (y0 + 1) s') → k < (rIf q num t (zStD q x0 y0) (x0) (y0 + 1) s').2.length → (rIf q num t (zStD q x0 y0) (x0) (y0 + 1) s').2.getD k (0, 0) = (x0, y0) → zW G M_X11_fills Q 31 [some (.ref C), some (vi p), some (vi t), some (vi f), some (vi num), some (vi ((rIf q num t (zStD q x0 y0) (x0) (y0 + 1) s').2.length : Int)), some (vi k), some (vi 3), none, none, none] [] (zmS C, σ2, τ)) → zW G M_X11_fills Q 31 [some (.ref C), some (vi p), some (vi t), some (vi f), some (vi num), some (vi (s'.2.length : Int)), some (vi k), some (vi 2), none, none, none] [] (zmS C, σs, τ) := by
    intro k s' σs x0 y0 hg hI hk hgd Q kk
    have hqs : mPc C σs p q := hq.s (by omega) (mSc2.rgn hg.1)
    have hxy : aIn q x0 y0 := by have := hI.2.1 (s'.2.getD k (0, 0)) (by rw [List.getD_eq_getElem?_getD, List.getElem?_eq_getElem hk]; simp); rw [hgd] at this; exact this
    have hqk : σs (C + 21) k = 16 * y0 + x0 := by have := hg.2.2.2 k hk; rw [hgd] at this; exact this
    have hm : (16 * y0 + x0) % 16 = x0 := by omega
    have hdv : (16 * y0 + x0) / 16 = y0 := by omega
    have hlen := hI.len hw
    have hst := rIf_w2 (q := q) (num := num) (t := t) (s := s') hxy
    have hk' : k < (rIf q num t (zStD q x0 y0) (x0) (y0 + 1) s').2.length := Nat.lt_of_lt_of_le hk rIf_len
    have hgd' : (rIf q num t (zStD q x0 y0) (x0) (y0 + 1) s').2.getD k (0, 0) = (x0, y0) := by rw [rIf_get hk]; exact hgd
    refine zw_iload 33 rfl dX11_fills_31 rfl ?_
    refine zw_iconst 34 rfl dX11_fills_33 ?_
    refine zw_icmp_ge 208 37 rfl dX11_fills_34 (by decide) (by omega) (by omega) (fun h_34 => ?_) (fun h_34 => ?_)
    · exfalso; omega
    · refine zw_aload_n 38 rfl dX11_fills_37 rfl ?_
      refine zw_getr 41 rfl dX11_fills_38 fl_X11_76 (by first | assumption | exact zm_o0 | exact zm_o _ _ _ rfl) (by first | assumption | exact zm_f _ _ rfl) ?_
      refine zw_iload 43 rfl dX11_fills_41 rfl ?_
      refine zw_iald 44 rfl dX11_fills_43 (by first | assumption | exact zm_o0 | exact zm_o _ _ _ rfl) (by omega) (by omega) ?_
      rw [Int.toNat_natCast, hqk]
      refine zw_bipush 46 rfl dX11_fills_44 rfl ?_
      refine zw_irem 47 rfl dX11_fills_46 (by omega) (by omega) ?_
      rw [hm]
      refine zw_iload 49 rfl dX11_fills_47 rfl ?_
      refine zw_if_ne 56 52 rfl dX11_fills_49 (by decide) (by omega) (fun h_49 => ?_) (fun h_49 => ?_)
      · refine zw_iload 58 rfl dX11_fills_56 rfl ?_
        refine zw_iconst 59 rfl dX11_fills_58 ?_
        refine zw_icmp_ne 66 62 rfl dX11_fills_59 (by decide) (by omega) (by omega) (fun h_59 => ?_) (fun h_59 => ?_)
        · refine zw_iconst 67 rfl dX11_fills_66 ?_
          refine zw_iadd 68 rfl dX11_fills_67 ?_
          rw [Int.add_zero]
          refine zw_istore 70 rfl dX11_fills_68 (Nat.le_of_ble_eq_true rfl) rfl ?_
          refine zw_aload_n 71 rfl dX11_fills_70 rfl ?_
          refine zw_getr 74 rfl dX11_fills_71 fl_X11_76 (by first | assumption | exact zm_o0 | exact zm_o _ _ _ rfl) (by first | assumption | exact zm_f _ _ rfl) ?_
          refine zw_iload 76 rfl dX11_fills_74 rfl ?_
          refine zw_iald 77 rfl dX11_fills_76 (by first | assumption | exact zm_o0 | exact zm_o _ _ _ rfl) (by omega) (by omega) ?_
          rw [Int.toNat_natCast, hqk]
          refine zw_bipush 79 rfl dX11_fills_77 rfl ?_
          refine zw_idiv 80 rfl dX11_fills_79 (by omega) (by omega) ?_
          rw [hdv]
          refine zw_iload 82 rfl dX11_fills_80 rfl ?_
          refine zw_iconst 83 rfl dX11_fills_82 ?_
          refine zw_icmp_ne 90 86 rfl dX11_fills_83 (by decide) (by omega) (by omega) (fun h_83 => ?_) (fun h_83 => ?_)
          · exfalso; omega
          · refine zw_iconst 87 rfl dX11_fills_86 ?_
            refine zw_goto 101 dX11_fills_87 (by decide) ?_
            refine zw_iadd 102 rfl dX11_fills_101 ?_
            skip
            refine zw_istore 104 rfl dX11_fills_102 (Nat.le_of_ble_eq_true rfl) rfl ?_
            refine zw_iload 106 rfl dX11_fills_104 rfl ?_
            refine zw_iconst 107 rfl dX11_fills_106 ?_
            refine zw_aload_n 108 rfl dX11_fills_107 rfl ?_
            refine zw_iload_n 109 rfl dX11_fills_108 rfl ?_
            refine zw_cVi1 112 rfl dX11_fills_109 kX11_fills_170 (Nat.le_of_ble_eq_true rfl) (by first | assumption | exact zm_o0 | exact zm_o _ _ _ rfl) (m_wideP hqs) ?_
            refine zw_iconst 113 rfl dX11_fills_112 ?_
            refine zw_isub 114 rfl dX11_fills_113 ?_
            refine zw_cSi3 117 rfl dX11_fills_114 kX11_fills_106 (Nat.le_of_ble_eq_true rfl) (m_in (by omega) (by omega) (by omega)) ?_
            refine zw_if_eqB 202 120 rfl dX11_fills_117 (by decide) (fun h_117 => ?_) (fun h_117 => ?_)
            · refine zw_iinc 205 rfl dX11_fills_202 (Nat.le_of_ble_eq_true rfl) rfl rfl ?_
              refine zw_goto 31 dX11_fills_205 (by decide) ?_
              refine zw_drop 8 ?_
              refine zw_drop 9 ?_
              try refine zw_drop 10 ?_
              first
              | (have hyes := hst
                 rw [if_pos ⟨⟨hin, h_157⟩, h_175⟩] at hyes
                 have hle : ((rIf q num t (zStD q x0 y0) (x0) (y0 + 1) s').2.length : Int) = (s'.2.length : Int) + 1 := by rw [hyes]; simp
                 have k2 := kk _ (by rw [hyes]; exact hg.put hw hin (by omega)) (hI.rif hnum) hk' hgd'
                 rw [hle] at k2
                 exact k2)
              | (rw [rIf_same (p := q) (num := num) (t := t) (s := s') (by rw [hst]; first | exact if_neg (fun u => h_175 u.2) | exact if_neg (fun u => h_157 u.1.2) | exact if_neg (fun u => h_133 (by have := u.1.1; omega)) | exact if_neg (fun u => h_117 (by have := u.1.1; omega)))] at kk
                 exact kk _ hg hI hk hgd)
            · refine zw_iload 122 rfl dX11_fills_120 rfl ?_
              refine zw_iconst 123 rfl dX11_fills_122 ?_
              refine zw_aload_n 124 rfl dX11_fills_123 rfl ?_
              refine zw_iload_n 125 rfl dX11_fills_124 rfl ?_
              refine zw_cVi1 128 rfl dX11_fills_125 kX11_fills_176 (Nat.le_of_ble_eq_true rfl) (by first | assumption | exact zm_o0 | exact zm_o _ _ _ rfl) (m_highP hqs) ?_
              refine zw_iconst 129 rfl dX11_fills_128 ?_
              refine zw_isub 130 rfl dX11_fills_129 ?_
              refine zw_cSi3 133 rfl dX11_fills_130 kX11_fills_106 (Nat.le_of_ble_eq_true rfl) (m_in (by omega) (by omega) (by omega)) ?_
              refine zw_if_neB 139 136 rfl dX11_fills_133 (by decide) (fun h_133 => ?_) (fun h_133 => ?_)
              · have hin : aIn q (x0) (y0 + 1) := by omega
                have hreg := hg.2.1 (x0) (y0 + 1) hin
                have hrr := hI.2.2 (x0) (y0 + 1)
                refine zw_bipush 141 rfl dX11_fills_139 rfl ?_
                refine zw_iload 143 rfl dX11_fills_141 rfl ?_
                refine zw_imul 144 rfl dX11_fills_143 ?_
                refine zw_iload 146 rfl dX11_fills_144 rfl ?_
                refine zw_iadd 147 rfl dX11_fills_146 ?_
                refine zw_istore 149 rfl dX11_fills_147 (Nat.le_of_ble_eq_true rfl) rfl ?_
                refine zw_aload_n 150 rfl dX11_fills_149 rfl ?_
                refine zw_getr 153 rfl dX11_fills_150 fl_X11_73 (by first | assumption | exact zm_o0 | exact zm_o _ _ _ rfl) (by first | assumption | exact zm_f _ _ rfl) ?_
                refine zw_iload 155 rfl dX11_fills_153 rfl ?_
                refine zw_iald 156 rfl dX11_fills_155 (by first | assumption | exact zm_o0 | exact zm_o _ _ _ rfl) (by omega) (by omega) ?_
                rw [hreg]
                refine zw_iconst 157 rfl dX11_fills_156 ?_
                refine zw_icmp_ne 202 160 rfl dX11_fills_157 (by decide) (by omega) (by omega) (fun h_157 => ?_) (fun h_157 => ?_)
                · refine zw_iinc 205 rfl dX11_fills_202 (Nat.le_of_ble_eq_true rfl) rfl rfl ?_
                  refine zw_goto 31 dX11_fills_205 (by decide) ?_
                  refine zw_drop 8 ?_
                  refine zw_drop 9 ?_
                  try refine zw_drop 10 ?_
                  first
                  | (have hyes := hst
                     rw [if_pos ⟨⟨hin, h_157⟩, h_175⟩] at hyes
                     have hle : ((rIf q num t (zStD q x0 y0) (x0) (y0 + 1) s').2.length : Int) = (s'.2.length : Int) + 1 := by rw [hyes]; simp
                     have k2 := kk _ (by rw [hyes]; exact hg.put hw hin (by omega)) (hI.rif hnum) hk' hgd'
                     rw [hle] at k2
                     exact k2)
                  | (rw [rIf_same (p := q) (num := num) (t := t) (s := s') (by rw [hst]; first | exact if_neg (fun u => h_175 u.2) | exact if_neg (fun u => h_157 u.1.2) | exact if_neg (fun u => h_133 (by have := u.1.1; omega)) | exact if_neg (fun u => h_117 (by have := u.1.1; omega)))] at kk
                     exact kk _ hg hI hk hgd)
                · have hlt := hI.room hw hnum.1 ⟨hin, h_157⟩
                  refine zw_aload_n 161 rfl dX11_fills_160 rfl ?_
                  refine zw_iload_n 162 rfl dX11_fills_161 rfl ?_
                  refine zw_aload_n 163 rfl dX11_fills_162 rfl ?_
                  refine zw_getr 166 rfl dX11_fills_163 fl_X11_76 (by first | assumption | exact zm_o0 | exact zm_o _ _ _ rfl) (by first | assumption | exact zm_f _ _ rfl) ?_
                  refine zw_iload 168 rfl dX11_fills_166 rfl ?_
                  refine zw_iald 169 rfl dX11_fills_168 (by first | assumption | exact zm_o0 | exact zm_o _ _ _ rfl) (by omega) (by omega) ?_
                  rw [Int.toNat_natCast, hqk]
                  refine zw_iload 171 rfl dX11_fills_169 rfl ?_
                  refine zw_iload_n 172 rfl dX11_fills_171 rfl ?_
                  refine zw_cVi4 175 rfl dX11_fills_172 kX11_fills_337 (Nat.le_of_ble_eq_true rfl) (by first | assumption | exact zm_o0 | exact zm_o _ _ _ rfl) (m_isNear hqs hxy hin (by omega) (by omega) ht) ?_
                  refine zw_if_neB 181 178 rfl dX11_fills_175 (by decide) (fun h_175 => ?_) (fun h_175 => ?_)
                  · refine zw_aload_n 182 rfl dX11_fills_181 rfl ?_
                    refine zw_getr 185 rfl dX11_fills_182 fl_X11_73 (by first | assumption | exact zm_o0 | exact zm_o _ _ _ rfl) (by first | assumption | exact zm_f _ _ rfl) ?_
                    refine zw_iload 187 rfl dX11_fills_185 rfl ?_
                    refine zw_iload 189 rfl dX11_fills_187 rfl ?_
                    refine zw_iast 190 rfl dX11_fills_189 (by first | assumption | exact zm_o0 | exact zm_o _ _ _ rfl) (by omega) (by omega) ?_
                    refine zw_aload_n 191 rfl dX11_fills_190 rfl ?_
                    refine zw_getr 194 rfl dX11_fills_191 fl_X11_76 (by first | assumption | exact zm_o0 | exact zm_o _ _ _ rfl) (by first | assumption | exact zm_f _ _ rfl) ?_
                    refine zw_iload 196 rfl dX11_fills_194 rfl ?_
                    refine zw_iload 198 rfl dX11_fills_196 rfl ?_
                    refine zw_iast 199 rfl dX11_fills_198 (by first | assumption | exact zm_o0 | exact zm_o _ _ _ rfl) (by omega) (by omega) ?_
                    rw [Int.toNat_natCast]
                    refine zw_iinc 202 rfl dX11_fills_199 (Nat.le_of_ble_eq_true rfl) rfl rfl ?_
                    refine zw_iinc 205 rfl dX11_fills_202 (Nat.le_of_ble_eq_true rfl) rfl rfl ?_
                    refine zw_goto 31 dX11_fills_205 (by decide) ?_
                    refine zw_drop 8 ?_
                    refine zw_drop 9 ?_
                    try refine zw_drop 10 ?_
                    first
                    | (have hyes := hst
                       rw [if_pos ⟨⟨hin, h_157⟩, h_175⟩] at hyes
                       have hle : ((rIf q num t (zStD q x0 y0) (x0) (y0 + 1) s').2.length : Int) = (s'.2.length : Int) + 1 := by rw [hyes]; simp
                       have k2 := kk _ (by rw [hyes]; exact hg.put hw hin (by omega)) (hI.rif hnum) hk' hgd'
                       rw [hle] at k2
                       exact k2)
                    | (rw [rIf_same (p := q) (num := num) (t := t) (s := s') (by rw [hst]; first | exact if_neg (fun u => h_175 u.2) | exact if_neg (fun u => h_157 u.1.2) | exact if_neg (fun u => h_133 (by have := u.1.1; omega)) | exact if_neg (fun u => h_117 (by have := u.1.1; omega)))] at kk
                       exact kk _ hg hI hk hgd)
                  · refine zw_goto 202 dX11_fills_178 (by decide) ?_
                    refine zw_iinc 205 rfl dX11_fills_202 (Nat.le_of_ble_eq_true rfl) rfl rfl ?_
                    refine zw_goto 31 dX11_fills_205 (by decide) ?_
                    refine zw_drop 8 ?_
                    refine zw_drop 9 ?_
                    try refine zw_drop 10 ?_
                    first
                    | (have hyes := hst
                       rw [if_pos ⟨⟨hin, h_157⟩, h_175⟩] at hyes
                       have hle : ((rIf q num t (zStD q x0 y0) (x0) (y0 + 1) s').2.length : Int) = (s'.2.length : Int) + 1 := by rw [hyes]; simp
                       have k2 := kk _ (by rw [hyes]; exact hg.put hw hin (by omega)) (hI.rif hnum) hk' hgd'
                       rw [hle] at k2
                       exact k2)
                    | (rw [rIf_same (p := q) (num := num) (t := t) (s := s') (by rw [hst]; first | exact if_neg (fun u => h_175 u.2) | exact if_neg (fun u => h_157 u.1.2) | exact if_neg (fun u => h_133 (by have := u.1.1; omega)) | exact if_neg (fun u => h_117 (by have := u.1.1; omega)))] at kk
                       exact kk _ hg hI hk hgd)
              · refine zw_goto 202 dX11_fills_136 (by decide) ?_
                refine zw_iinc 205 rfl dX11_fills_202 (Nat.le_of_ble_eq_true rfl) rfl rfl ?_
                refine zw_goto 31 dX11_fills_205 (by decide) ?_
                refine zw_drop 8 ?_
                refine zw_drop 9 ?_
                try refine zw_drop 10 ?_
                first
                | (have hyes := hst
                   rw [if_pos ⟨⟨hin, h_157⟩, h_175⟩] at hyes
                   have hle : ((rIf q num t (zStD q x0 y0) (x0) (y0 + 1) s').2.length : Int) = (s'.2.length : Int) + 1 := by rw [hyes]; simp
                   have k2 := kk _ (by rw [hyes]; exact hg.put hw hin (by omega)) (hI.rif hnum) hk' hgd'
                   rw [hle] at k2
                   exact k2)
                | (rw [rIf_same (p := q) (num := num) (t := t) (s := s') (by rw [hst]; first | exact if_neg (fun u => h_175 u.2) | exact if_neg (fun u => h_157 u.1.2) | exact if_neg (fun u => h_133 (by have := u.1.1; omega)) | exact if_neg (fun u => h_117 (by have := u.1.1; omega)))] at kk
                   exact kk _ hg hI hk hgd)
        · exfalso; omega
      · exfalso; omega
  have way3 : ∀ (k : Nat) (s' : zRg) (σs : zSt) (x0 y0 : Int), mRG C σ1 q s' σs → rI q num s' → k < s'.2.length → s'.2.getD k (0, 0) = (x0, y0) → ∀ Q : Option Value → zWd → Prop, (∀ σ2 : zSt, mRG C σ1 q (rIf q num t (zStD q x0 (y0 - 1)) (x0) (y0 - 1) s') σ2 → rI q num (rIf q num t (zStD q x0 (y0 - 1)) (x0) (y0 - 1) s') → k < (rIf q num t (zStD q x0 (y0 - 1)) (x0) (y0 - 1) s').2.length → (rIf q num t (zStD q x0 (y0 - 1)) (x0) (y0 - 1) s').2.getD k (0, 0) = (x0, y0) → zW G M_X11_fills Q 31 [some (.ref C), some (vi p), some (vi t), some (vi f), some (vi num), some (vi ((rIf q num t (zStD q x0 (y0 - 1)) (x0) (y0 - 1) s').2.length : Int)), some (vi k), some (vi 4), none, none, none] [] (zmS C, σ2, τ)) → zW G M_X11_fills Q 31 [some (.ref C), some (vi p), some (vi t), some (vi f), some (vi num), some (vi (s'.2.length : Int)), some (vi k), some (vi 3), none, none, none] [] (zmS C, σs, τ) := by
    intro k s' σs x0 y0 hg hI hk hgd Q kk
    have hqs : mPc C σs p q := hq.s (by omega) (mSc2.rgn hg.1)
    have hxy : aIn q x0 y0 := by have := hI.2.1 (s'.2.getD k (0, 0)) (by rw [List.getD_eq_getElem?_getD, List.getElem?_eq_getElem hk]; simp); rw [hgd] at this; exact this
    have hqk : σs (C + 21) k = 16 * y0 + x0 := by have := hg.2.2.2 k hk; rw [hgd] at this; exact this
    have hm : (16 * y0 + x0) % 16 = x0 := by omega
    have hdv : (16 * y0 + x0) / 16 = y0 := by omega
    have hlen := hI.len hw
    have hst := rIf_w3 (q := q) (num := num) (t := t) (s := s') hxy
    have hk' : k < (rIf q num t (zStD q x0 (y0 - 1)) (x0) (y0 - 1) s').2.length := Nat.lt_of_lt_of_le hk rIf_len
    have hgd' : (rIf q num t (zStD q x0 (y0 - 1)) (x0) (y0 - 1) s').2.getD k (0, 0) = (x0, y0) := by rw [rIf_get hk]; exact hgd
    refine zw_iload 33 rfl dX11_fills_31 rfl ?_
    refine zw_iconst 34 rfl dX11_fills_33 ?_
    refine zw_icmp_ge 208 37 rfl dX11_fills_34 (by decide) (by omega) (by omega) (fun h_34 => ?_) (fun h_34 => ?_)
    · exfalso; omega
    · refine zw_aload_n 38 rfl dX11_fills_37 rfl ?_
      refine zw_getr 41 rfl dX11_fills_38 fl_X11_76 (by first | assumption | exact zm_o0 | exact zm_o _ _ _ rfl) (by first | assumption | exact zm_f _ _ rfl) ?_
      refine zw_iload 43 rfl dX11_fills_41 rfl ?_
      refine zw_iald 44 rfl dX11_fills_43 (by first | assumption | exact zm_o0 | exact zm_o _ _ _ rfl) (by omega) (by omega) ?_
      rw [Int.toNat_natCast, hqk]
      refine zw_bipush 46 rfl dX11_fills_44 rfl ?_
      refine zw_irem 47 rfl dX11_fills_46 (by omega) (by omega) ?_
      rw [hm]
      refine zw_iload 49 rfl dX11_fills_47 rfl ?_
      refine zw_if_ne 56 52 rfl dX11_fills_49 (by decide) (by omega) (fun h_49 => ?_) (fun h_49 => ?_)
      · refine zw_iload 58 rfl dX11_fills_56 rfl ?_
        refine zw_iconst 59 rfl dX11_fills_58 ?_
        refine zw_icmp_ne 66 62 rfl dX11_fills_59 (by decide) (by omega) (by omega) (fun h_59 => ?_) (fun h_59 => ?_)
        · refine zw_iconst 67 rfl dX11_fills_66 ?_
          refine zw_iadd 68 rfl dX11_fills_67 ?_
          rw [Int.add_zero]
          refine zw_istore 70 rfl dX11_fills_68 (Nat.le_of_ble_eq_true rfl) rfl ?_
          refine zw_aload_n 71 rfl dX11_fills_70 rfl ?_
          refine zw_getr 74 rfl dX11_fills_71 fl_X11_76 (by first | assumption | exact zm_o0 | exact zm_o _ _ _ rfl) (by first | assumption | exact zm_f _ _ rfl) ?_
          refine zw_iload 76 rfl dX11_fills_74 rfl ?_
          refine zw_iald 77 rfl dX11_fills_76 (by first | assumption | exact zm_o0 | exact zm_o _ _ _ rfl) (by omega) (by omega) ?_
          rw [Int.toNat_natCast, hqk]
          refine zw_bipush 79 rfl dX11_fills_77 rfl ?_
          refine zw_idiv 80 rfl dX11_fills_79 (by omega) (by omega) ?_
          rw [hdv]
          refine zw_iload 82 rfl dX11_fills_80 rfl ?_
          refine zw_iconst 83 rfl dX11_fills_82 ?_
          refine zw_icmp_ne 90 86 rfl dX11_fills_83 (by decide) (by omega) (by omega) (fun h_83 => ?_) (fun h_83 => ?_)
          · refine zw_iload 92 rfl dX11_fills_90 rfl ?_
            refine zw_iconst 93 rfl dX11_fills_92 ?_
            refine zw_icmp_ne 100 96 rfl dX11_fills_93 (by decide) (by omega) (by omega) (fun h_93 => ?_) (fun h_93 => ?_)
            · exfalso; omega
            · refine zw_iconst 97 rfl dX11_fills_96 ?_
              refine zw_goto 101 dX11_fills_97 (by decide) ?_
              refine zw_iadd 102 rfl dX11_fills_101 ?_
              rw [show y0 + -1 = y0 - 1 by omega]
              refine zw_istore 104 rfl dX11_fills_102 (Nat.le_of_ble_eq_true rfl) rfl ?_
              refine zw_iload 106 rfl dX11_fills_104 rfl ?_
              refine zw_iconst 107 rfl dX11_fills_106 ?_
              refine zw_aload_n 108 rfl dX11_fills_107 rfl ?_
              refine zw_iload_n 109 rfl dX11_fills_108 rfl ?_
              refine zw_cVi1 112 rfl dX11_fills_109 kX11_fills_170 (Nat.le_of_ble_eq_true rfl) (by first | assumption | exact zm_o0 | exact zm_o _ _ _ rfl) (m_wideP hqs) ?_
              refine zw_iconst 113 rfl dX11_fills_112 ?_
              refine zw_isub 114 rfl dX11_fills_113 ?_
              refine zw_cSi3 117 rfl dX11_fills_114 kX11_fills_106 (Nat.le_of_ble_eq_true rfl) (m_in (by omega) (by omega) (by omega)) ?_
              refine zw_if_eqB 202 120 rfl dX11_fills_117 (by decide) (fun h_117 => ?_) (fun h_117 => ?_)
              · refine zw_iinc 205 rfl dX11_fills_202 (Nat.le_of_ble_eq_true rfl) rfl rfl ?_
                refine zw_goto 31 dX11_fills_205 (by decide) ?_
                refine zw_drop 8 ?_
                refine zw_drop 9 ?_
                try refine zw_drop 10 ?_
                first
                | (have hyes := hst
                   rw [if_pos ⟨⟨hin, h_157⟩, h_175⟩] at hyes
                   have hle : ((rIf q num t (zStD q x0 (y0 - 1)) (x0) (y0 - 1) s').2.length : Int) = (s'.2.length : Int) + 1 := by rw [hyes]; simp
                   have k2 := kk _ (by rw [hyes]; exact hg.put hw hin (by omega)) (hI.rif hnum) hk' hgd'
                   rw [hle] at k2
                   exact k2)
                | (rw [rIf_same (p := q) (num := num) (t := t) (s := s') (by rw [hst]; first | exact if_neg (fun u => h_175 u.2) | exact if_neg (fun u => h_157 u.1.2) | exact if_neg (fun u => h_133 (by have := u.1.1; omega)) | exact if_neg (fun u => h_117 (by have := u.1.1; omega)))] at kk
                   exact kk _ hg hI hk hgd)
              · refine zw_iload 122 rfl dX11_fills_120 rfl ?_
                refine zw_iconst 123 rfl dX11_fills_122 ?_
                refine zw_aload_n 124 rfl dX11_fills_123 rfl ?_
                refine zw_iload_n 125 rfl dX11_fills_124 rfl ?_
                refine zw_cVi1 128 rfl dX11_fills_125 kX11_fills_176 (Nat.le_of_ble_eq_true rfl) (by first | assumption | exact zm_o0 | exact zm_o _ _ _ rfl) (m_highP hqs) ?_
                refine zw_iconst 129 rfl dX11_fills_128 ?_
                refine zw_isub 130 rfl dX11_fills_129 ?_
                refine zw_cSi3 133 rfl dX11_fills_130 kX11_fills_106 (Nat.le_of_ble_eq_true rfl) (m_in (by omega) (by omega) (by omega)) ?_
                refine zw_if_neB 139 136 rfl dX11_fills_133 (by decide) (fun h_133 => ?_) (fun h_133 => ?_)
                · have hin : aIn q (x0) (y0 - 1) := by omega
                  have hreg := hg.2.1 (x0) (y0 - 1) hin
                  have hrr := hI.2.2 (x0) (y0 - 1)
                  refine zw_bipush 141 rfl dX11_fills_139 rfl ?_
                  refine zw_iload 143 rfl dX11_fills_141 rfl ?_
                  refine zw_imul 144 rfl dX11_fills_143 ?_
                  refine zw_iload 146 rfl dX11_fills_144 rfl ?_
                  refine zw_iadd 147 rfl dX11_fills_146 ?_
                  refine zw_istore 149 rfl dX11_fills_147 (Nat.le_of_ble_eq_true rfl) rfl ?_
                  refine zw_aload_n 150 rfl dX11_fills_149 rfl ?_
                  refine zw_getr 153 rfl dX11_fills_150 fl_X11_73 (by first | assumption | exact zm_o0 | exact zm_o _ _ _ rfl) (by first | assumption | exact zm_f _ _ rfl) ?_
                  refine zw_iload 155 rfl dX11_fills_153 rfl ?_
                  refine zw_iald 156 rfl dX11_fills_155 (by first | assumption | exact zm_o0 | exact zm_o _ _ _ rfl) (by omega) (by omega) ?_
                  rw [hreg]
                  refine zw_iconst 157 rfl dX11_fills_156 ?_
                  refine zw_icmp_ne 202 160 rfl dX11_fills_157 (by decide) (by omega) (by omega) (fun h_157 => ?_) (fun h_157 => ?_)
                  · refine zw_iinc 205 rfl dX11_fills_202 (Nat.le_of_ble_eq_true rfl) rfl rfl ?_
                    refine zw_goto 31 dX11_fills_205 (by decide) ?_
                    refine zw_drop 8 ?_
                    refine zw_drop 9 ?_
                    try refine zw_drop 10 ?_
                    first
                    | (have hyes := hst
                       rw [if_pos ⟨⟨hin, h_157⟩, h_175⟩] at hyes
                       have hle : ((rIf q num t (zStD q x0 (y0 - 1)) (x0) (y0 - 1) s').2.length : Int) = (s'.2.length : Int) + 1 := by rw [hyes]; simp
                       have k2 := kk _ (by rw [hyes]; exact hg.put hw hin (by omega)) (hI.rif hnum) hk' hgd'
                       rw [hle] at k2
                       exact k2)
                    | (rw [rIf_same (p := q) (num := num) (t := t) (s := s') (by rw [hst]; first | exact if_neg (fun u => h_175 u.2) | exact if_neg (fun u => h_157 u.1.2) | exact if_neg (fun u => h_133 (by have := u.1.1; omega)) | exact if_neg (fun u => h_117 (by have := u.1.1; omega)))] at kk
                       exact kk _ hg hI hk hgd)
                  · have hlt := hI.room hw hnum.1 ⟨hin, h_157⟩
                    refine zw_aload_n 161 rfl dX11_fills_160 rfl ?_
                    refine zw_iload_n 162 rfl dX11_fills_161 rfl ?_
                    refine zw_aload_n 163 rfl dX11_fills_162 rfl ?_
                    refine zw_getr 166 rfl dX11_fills_163 fl_X11_76 (by first | assumption | exact zm_o0 | exact zm_o _ _ _ rfl) (by first | assumption | exact zm_f _ _ rfl) ?_
                    refine zw_iload 168 rfl dX11_fills_166 rfl ?_
                    refine zw_iald 169 rfl dX11_fills_168 (by first | assumption | exact zm_o0 | exact zm_o _ _ _ rfl) (by omega) (by omega) ?_
                    rw [Int.toNat_natCast, hqk]
                    refine zw_iload 171 rfl dX11_fills_169 rfl ?_
                    refine zw_iload_n 172 rfl dX11_fills_171 rfl ?_
                    refine zw_cVi4 175 rfl dX11_fills_172 kX11_fills_337 (Nat.le_of_ble_eq_true rfl) (by first | assumption | exact zm_o0 | exact zm_o _ _ _ rfl) (m_isNear hqs hxy hin (by omega) (by omega) ht) ?_
                    refine zw_if_neB 181 178 rfl dX11_fills_175 (by decide) (fun h_175 => ?_) (fun h_175 => ?_)
                    · refine zw_aload_n 182 rfl dX11_fills_181 rfl ?_
                      refine zw_getr 185 rfl dX11_fills_182 fl_X11_73 (by first | assumption | exact zm_o0 | exact zm_o _ _ _ rfl) (by first | assumption | exact zm_f _ _ rfl) ?_
                      refine zw_iload 187 rfl dX11_fills_185 rfl ?_
                      refine zw_iload 189 rfl dX11_fills_187 rfl ?_
                      refine zw_iast 190 rfl dX11_fills_189 (by first | assumption | exact zm_o0 | exact zm_o _ _ _ rfl) (by omega) (by omega) ?_
                      refine zw_aload_n 191 rfl dX11_fills_190 rfl ?_
                      refine zw_getr 194 rfl dX11_fills_191 fl_X11_76 (by first | assumption | exact zm_o0 | exact zm_o _ _ _ rfl) (by first | assumption | exact zm_f _ _ rfl) ?_
                      refine zw_iload 196 rfl dX11_fills_194 rfl ?_
                      refine zw_iload 198 rfl dX11_fills_196 rfl ?_
                      refine zw_iast 199 rfl dX11_fills_198 (by first | assumption | exact zm_o0 | exact zm_o _ _ _ rfl) (by omega) (by omega) ?_
                      rw [Int.toNat_natCast]
                      refine zw_iinc 202 rfl dX11_fills_199 (Nat.le_of_ble_eq_true rfl) rfl rfl ?_
                      refine zw_iinc 205 rfl dX11_fills_202 (Nat.le_of_ble_eq_true rfl) rfl rfl ?_
                      refine zw_goto 31 dX11_fills_205 (by decide) ?_
                      refine zw_drop 8 ?_
                      refine zw_drop 9 ?_
                      try refine zw_drop 10 ?_
                      first
                      | (have hyes := hst
                         rw [if_pos ⟨⟨hin, h_157⟩, h_175⟩] at hyes
                         have hle : ((rIf q num t (zStD q x0 (y0 - 1)) (x0) (y0 - 1) s').2.length : Int) = (s'.2.length : Int) + 1 := by rw [hyes]; simp
                         have k2 := kk _ (by rw [hyes]; exact hg.put hw hin (by omega)) (hI.rif hnum) hk' hgd'
                         rw [hle] at k2
                         exact k2)
                      | (rw [rIf_same (p := q) (num := num) (t := t) (s := s') (by rw [hst]; first | exact if_neg (fun u => h_175 u.2) | exact if_neg (fun u => h_157 u.1.2) | exact if_neg (fun u => h_133 (by have := u.1.1; omega)) | exact if_neg (fun u => h_117 (by have := u.1.1; omega)))] at kk
                         exact kk _ hg hI hk hgd)
                    · refine zw_goto 202 dX11_fills_178 (by decide) ?_
                      refine zw_iinc 205 rfl dX11_fills_202 (Nat.le_of_ble_eq_true rfl) rfl rfl ?_
                      refine zw_goto 31 dX11_fills_205 (by decide) ?_
                      refine zw_drop 8 ?_
                      refine zw_drop 9 ?_
                      try refine zw_drop 10 ?_
                      first
                      | (have hyes := hst
                         rw [if_pos ⟨⟨hin, h_157⟩, h_175⟩] at hyes
                         have hle : ((rIf q num t (zStD q x0 (y0 - 1)) (x0) (y0 - 1) s').2.length : Int) = (s'.2.length : Int) + 1 := by rw [hyes]; simp
                         have k2 := kk _ (by rw [hyes]; exact hg.put hw hin (by omega)) (hI.rif hnum) hk' hgd'
                         rw [hle] at k2
                         exact k2)
                      | (rw [rIf_same (p := q) (num := num) (t := t) (s := s') (by rw [hst]; first | exact if_neg (fun u => h_175 u.2) | exact if_neg (fun u => h_157 u.1.2) | exact if_neg (fun u => h_133 (by have := u.1.1; omega)) | exact if_neg (fun u => h_117 (by have := u.1.1; omega)))] at kk
                         exact kk _ hg hI hk hgd)
                · refine zw_goto 202 dX11_fills_136 (by decide) ?_
                  refine zw_iinc 205 rfl dX11_fills_202 (Nat.le_of_ble_eq_true rfl) rfl rfl ?_
                  refine zw_goto 31 dX11_fills_205 (by decide) ?_
                  refine zw_drop 8 ?_
                  refine zw_drop 9 ?_
                  try refine zw_drop 10 ?_
                  first
                  | (have hyes := hst
                     rw [if_pos ⟨⟨hin, h_157⟩, h_175⟩] at hyes
                     have hle : ((rIf q num t (zStD q x0 (y0 - 1)) (x0) (y0 - 1) s').2.length : Int) = (s'.2.length : Int) + 1 := by rw [hyes]; simp
                     have k2 := kk _ (by rw [hyes]; exact hg.put hw hin (by omega)) (hI.rif hnum) hk' hgd'
                     rw [hle] at k2
                     exact k2)
                  | (rw [rIf_same (p := q) (num := num) (t := t) (s := s') (by rw [hst]; first | exact if_neg (fun u => h_175 u.2) | exact if_neg (fun u => h_157 u.1.2) | exact if_neg (fun u => h_133 (by have := u.1.1; omega)) | exact if_neg (fun u => h_117 (by have := u.1.1; omega)))] at kk
                     exact kk _ hg hI hk hgd)
          · exfalso; omega
        · exfalso; omega
      · exfalso; omega
  have loop : ∀ (n k : Nat) (s' : zRg) (σs : zSt), k + n = 192 → rI q num s' → mRG C σ1 q s' σs → zW G M_X11_fills (fun r w' => r = none ∧ ∃ σ' : zSt, w' = (zmS C, σ', τ) ∧ mRG C σ1 q (rFl q num t n k s') σ') 21 [some (.ref C), some (vi p), some (vi t), some (vi f), some (vi num), some (vi (s'.2.length : Int)), some (vi k), none, none, none, none] [] (zmS C, σs, τ) := by
    intro n
    induction n with
    | zero =>
      intro k s' σs hk hI hg
      have hlen := hI.len hw
      refine zw_iload 23 rfl dX11_fills_21 rfl ?_
      refine zw_iload 25 rfl dX11_fills_23 rfl ?_
      refine zw_icmp_ge 214 28 rfl dX11_fills_25 (by decide) (by omega) (by omega) (fun h_25 => ?_) (fun h_25 => ?_)
      · exact zw_vret (st := []) dX11_fills_214 rfl ⟨rfl, _, rfl, hg⟩
      · exfalso; omega
    | succ n ih =>
      intro k s' σs hk hI hg
      have hlen := hI.len hw
      by_cases hkl : k < s'.2.length
      · obtain ⟨x0, y0, hgd⟩ : ∃ x0 y0, s'.2.getD k (0, 0) = (x0, y0) := ⟨_, _, rfl⟩
        have e : rFl q num t (n + 1) k s' = rFl q num t n (k + 1) (rVis q num t x0 y0 s') := by simp only [rFl]; rw [if_pos hkl, hgd]
        rw [e]
        refine zw_iload 23 rfl dX11_fills_21 rfl ?_
        refine zw_iload 25 rfl dX11_fills_23 rfl ?_
        refine zw_icmp_ge 214 28 rfl dX11_fills_25 (by decide) (by omega) (by omega) (fun h_25 => ?_) (fun h_25 => ?_)
        · exfalso; omega
        · refine zw_iconst 29 rfl dX11_fills_28 ?_
          refine zw_istore 31 rfl dX11_fills_29 (Nat.le_of_ble_eq_true rfl) rfl ?_
          refine way0 k s' σs x0 y0 hg hI hkl hgd _ (fun σ2 g2 i2 k2 d2 => ?_)
          refine way1 k _ σ2 x0 y0 g2 i2 k2 d2 _ (fun σ3 g3 i3 k3 d3 => ?_)
          refine way2 k _ σ3 x0 y0 g3 i3 k3 d3 _ (fun σ4 g4 i4 k4 d4 => ?_)
          refine way3 k _ σ4 x0 y0 g4 i4 k4 d4 _ (fun σ5 g5 i5 k5 d5 => ?_)
          have l5 := i5.len hw
          refine zw_iload 33 rfl dX11_fills_31 rfl ?_
          refine zw_iconst 34 rfl dX11_fills_33 ?_
          refine zw_icmp_ge 208 37 rfl dX11_fills_34 (by decide) (by omega) (by omega) (fun h_34 => ?_) (fun h_34 => ?_)
          · refine zw_iinc 211 rfl dX11_fills_208 (Nat.le_of_ble_eq_true rfl) rfl rfl ?_
            refine zw_goto 21 dX11_fills_211 (by decide) ?_
            refine zw_drop 7 ?_
            exact ih (k + 1) _ σ5 (by omega) i5 g5
          · exfalso; omega
      · have e : rFl q num t (n + 1) k s' = s' := by simp only [rFl]; rw [if_neg hkl]
        rw [e]
        refine zw_iload 23 rfl dX11_fills_21 rfl ?_
        refine zw_iload 25 rfl dX11_fills_23 rfl ?_
        refine zw_icmp_ge 214 28 rfl dX11_fills_25 (by decide) (by omega) (by omega) (fun h_25 => ?_) (fun h_25 => ?_)
        · exact zw_vret (st := []) dX11_fills_214 rfl ⟨rfl, _, rfl, hg⟩
        · exfalso; omega
  have e0 : rEnt q num x y s = ((fun a b => if a = x ∧ b = y then num else s.1 a b), s.2 ++ [(x, y)]) := by unfold rEnt; rw [if_pos ⟨hxy0, hs1⟩]
  have hstart := hg0.put (num := num) hw hxy0 (by rw [hs0]; decide)
  rw [← e0] at hstart
  have el : (rEnt q num x y s).2.length = 1 := by rw [e0, hs0]; rfl
  refine zw_aload_n 1 rfl dX11_fills_0 rfl ?_
  refine zw_getr 4 rfl dX11_fills_1 fl_X11_76 (by first | assumption | exact zm_o0 | exact zm_o _ _ _ rfl) (by first | assumption | exact zm_f _ _ rfl) ?_
  refine zw_iconst 5 rfl dX11_fills_4 ?_
  refine zw_iload_n 6 rfl dX11_fills_5 rfl ?_
  refine zw_iast 7 rfl dX11_fills_6 (by first | assumption | exact zm_o0 | exact zm_o _ _ _ rfl) (by omega) (by omega) ?_
  refine zw_aload_n 8 rfl dX11_fills_7 rfl ?_
  refine zw_getr 11 rfl dX11_fills_8 fl_X11_73 (by first | assumption | exact zm_o0 | exact zm_o _ _ _ rfl) (by first | assumption | exact zm_f _ _ rfl) ?_
  refine zw_iload_n 12 rfl dX11_fills_11 rfl ?_
  refine zw_iload 14 rfl dX11_fills_12 rfl ?_
  refine zw_iast 15 rfl dX11_fills_14 (by first | assumption | exact zm_o0 | exact zm_o _ _ _ rfl) (by omega) (by omega) ?_
  refine zw_iconst 16 rfl dX11_fills_15 ?_
  refine zw_istore 18 rfl dX11_fills_16 (Nat.le_of_ble_eq_true rfl) rfl ?_
  refine zw_iconst 19 rfl dX11_fills_18 ?_
  refine zw_istore 21 rfl dX11_fills_19 (Nat.le_of_ble_eq_true rfl) rfl ?_
  have L := loop 192 0 (rEnt q num x y s) _ rfl hI0 hstart
  rw [el] at L
  rw [hs0, ← hf] at L
  rw [zu_comm (show C + 21 ≠ C + 20 by omega)]
  exact L
