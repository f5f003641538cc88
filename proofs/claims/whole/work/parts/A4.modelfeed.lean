/-! ===== feed ===== -/
theorem mfd {a b c d e w : Int} {k : Nat} (hk : k < 20) (hw : w = (if k < 4 then a else if k < 8 then b else if k < 12 then c else if k < 16 then d else e)) (hr : -2147483648 ≤ w ∧ w ≤ 2147483647) : (zI ((zI w >>> (zI (24 - 8 * ((k : Int) % 4)) &&& 31)).toInt) &&& zI 255).toInt = (zbs a ++ (zbs b ++ (zbs c ++ (zbs d ++ zbs e)))).getD k 0 := by
  rcases (show k = 0 ∨ k = 1 ∨ k = 2 ∨ k = 3 ∨ k = 4 ∨ k = 5 ∨ k = 6 ∨ k = 7 ∨ k = 8 ∨ k = 9 ∨ k = 10 ∨ k = 11 ∨ k = 12 ∨ k = 13 ∨ k = 14 ∨ k = 15 ∨ k = 16 ∨ k = 17 ∨ k = 18 ∨ k = 19 by omega) with rfl | rfl | rfl | rfl | rfl | rfl | rfl | rfl | rfl | rfl | rfl | rfl | rfl | rfl | rfl | rfl | rfl | rfl | rfl | rfl
  · rw [show (24 - 8 * (((0 : Nat) : Int) % 4)) = 24 from rfl, zby_s hr 24 24 rfl (by omega), show w = a from hw]; rfl
  · rw [show (24 - 8 * (((1 : Nat) : Int) % 4)) = 16 from rfl, zby_s hr 16 16 rfl (by omega), show w = a from hw]; rfl
  · rw [show (24 - 8 * (((2 : Nat) : Int) % 4)) = 8 from rfl, zby_s hr 8 8 rfl (by omega), show w = a from hw]; rfl
  · rw [show (24 - 8 * (((3 : Nat) : Int) % 4)) = 0 from rfl, zby_s hr 0 0 rfl (by omega), show w = a from hw]; rfl
  · rw [show (24 - 8 * (((4 : Nat) : Int) % 4)) = 24 from rfl, zby_s hr 24 24 rfl (by omega), show w = b from hw]; rfl
  · rw [show (24 - 8 * (((5 : Nat) : Int) % 4)) = 16 from rfl, zby_s hr 16 16 rfl (by omega), show w = b from hw]; rfl
  · rw [show (24 - 8 * (((6 : Nat) : Int) % 4)) = 8 from rfl, zby_s hr 8 8 rfl (by omega), show w = b from hw]; rfl
  · rw [show (24 - 8 * (((7 : Nat) : Int) % 4)) = 0 from rfl, zby_s hr 0 0 rfl (by omega), show w = b from hw]; rfl
  · rw [show (24 - 8 * (((8 : Nat) : Int) % 4)) = 24 from rfl, zby_s hr 24 24 rfl (by omega), show w = c from hw]; rfl
  · rw [show (24 - 8 * (((9 : Nat) : Int) % 4)) = 16 from rfl, zby_s hr 16 16 rfl (by omega), show w = c from hw]; rfl
  · rw [show (24 - 8 * (((10 : Nat) : Int) % 4)) = 8 from rfl, zby_s hr 8 8 rfl (by omega), show w = c from hw]; rfl
  · rw [show (24 - 8 * (((11 : Nat) : Int) % 4)) = 0 from rfl, zby_s hr 0 0 rfl (by omega), show w = c from hw]; rfl
  · rw [show (24 - 8 * (((12 : Nat) : Int) % 4)) = 24 from rfl, zby_s hr 24 24 rfl (by omega), show w = d from hw]; rfl
  · rw [show (24 - 8 * (((13 : Nat) : Int) % 4)) = 16 from rfl, zby_s hr 16 16 rfl (by omega), show w = d from hw]; rfl
  · rw [show (24 - 8 * (((14 : Nat) : Int) % 4)) = 8 from rfl, zby_s hr 8 8 rfl (by omega), show w = d from hw]; rfl
  · rw [show (24 - 8 * (((15 : Nat) : Int) % 4)) = 0 from rfl, zby_s hr 0 0 rfl (by omega), show w = d from hw]; rfl
  · rw [show (24 - 8 * (((16 : Nat) : Int) % 4)) = 24 from rfl, zby_s hr 24 24 rfl (by omega), show w = e from hw]; rfl
  · rw [show (24 - 8 * (((17 : Nat) : Int) % 4)) = 16 from rfl, zby_s hr 16 16 rfl (by omega), show w = e from hw]; rfl
  · rw [show (24 - 8 * (((18 : Nat) : Int) % 4)) = 8 from rfl, zby_s hr 8 8 rfl (by omega), show w = e from hw]; rfl
  · rw [show (24 - 8 * (((19 : Nat) : Int) % 4)) = 0 from rfl, zby_s hr 0 0 rfl (by omega), show w = e from hw]; rfl
theorem zbs_r {a b c d e : Int} {k : Nat} (hk : k < 20) : 0 ≤ (zbs a ++ (zbs b ++ (zbs c ++ (zbs d ++ zbs e)))).getD k 0 ∧ (zbs a ++ (zbs b ++ (zbs c ++ (zbs d ++ zbs e)))).getD k 0 ≤ 255 := by
  rcases (show k = 0 ∨ k = 1 ∨ k = 2 ∨ k = 3 ∨ k = 4 ∨ k = 5 ∨ k = 6 ∨ k = 7 ∨ k = 8 ∨ k = 9 ∨ k = 10 ∨ k = 11 ∨ k = 12 ∨ k = 13 ∨ k = 14 ∨ k = 15 ∨ k = 16 ∨ k = 17 ∨ k = 18 ∨ k = 19 by omega) with rfl | rfl | rfl | rfl | rfl | rfl | rfl | rfl | rfl | rfl | rfl | rfl | rfl | rfl | rfl | rfl | rfl | rfl | rfl | rfl <;> exact zby_r _ _
theorem Y_feed {G : zG} {C : Nat} {σ τ : zSt} {A : zA} {a b c d e : Int} (h : zmR C σ τ A) (ha : -2147483648 ≤ a ∧ a ≤ 2147483647) (hb : -2147483648 ≤ b ∧ b ≤ 2147483647) (hc : -2147483648 ≤ c ∧ c ≤ 2147483647) (hd1 : -2147483648 ≤ d ∧ d ≤ 2147483647) (he1 : -2147483648 ≤ e ∧ e ≤ 2147483647) : zC G M_X11_feed [.ref C, vi a, vi b, vi c, vi d, vi e] (zmS C, σ, τ) (mQ C (sp_feed A a b c d e)) := by
  obtain ⟨t1, t2, t3⟩ := h.2.2.1
  have E := mSame h (mThrown (v := 0)) mScT.rf (zu_k _ _ (by omega)) (zu_k _ _ (by omega))
  have tl : σ C 4 = ((aT A).length : Int) := t1
  have tL : (aT A).length ≤ 700 := t2
  refine zC_of 2 rfl (Nat.le_of_ble_eq_true rfl) ?_
  have key : ((aT A).length : Int) + 20 ≤ 700 → ∀ σs : zSt, (∀ b j, b ≠ C + 1 → σs b j = zu σ C 0 0 b j) → (∀ j, j < (aT A).length → σs (C + 1) j = σ (C + 1) j) → (∀ j, j < 0 → σs (C + 1) ((aT A).length + j) = (zbs a ++ (zbs b ++ (zbs c ++ (zbs d ++ zbs e)))).getD j 0) → zW G M_X11_feed (mQ C (sp_feed A a b c d e)) 23 [some (.ref C), some (vi a), some (vi b), some (vi c), some (vi d), some (vi e), some (vi (0 : Nat)), none] [] (zmS C, σs, τ) := by
    intro hn
    refine zloop (n := 20) (L := fun k => ∀ σs : zSt, (∀ b j, b ≠ C + 1 → σs b j = zu σ C 0 0 b j) → (∀ j, j < (aT A).length → σs (C + 1) j = σ (C + 1) j) → (∀ j, j < k → σs (C + 1) ((aT A).length + j) = (zbs a ++ (zbs b ++ (zbs c ++ (zbs d ++ zbs e)))).getD j 0) → zW G M_X11_feed (mQ C (sp_feed A a b c d e)) 23 [some (.ref C), some (vi a), some (vi b), some (vi c), some (vi d), some (vi e), some (vi k), none] [] (zmS C, σs, τ)) ?_ ?_
    · intro σs e1 e2 e3
      have e4 : σs C 4 = (aT A).length := by rw [e1 _ _ (by omega), zu_k _ _ (by omega), tl]
      have fin : zmR C (zu σs C 4 ((aT A).length + 20)) τ (A.1, A.2.1, aT A ++ (zbs a ++ (zbs b ++ (zbs c ++ (zbs d ++ zbs e)))), A.2.2.2) := by
        obtain ⟨a1, a2, a3, a4, a5, a6, a7⟩ := h
        have f2 : ∀ b j, b ≠ C + 1 → (b = C → j ≠ 4 ∧ j ≠ 0) → zu σs C 4 ((aT A).length + 20) b j = σ b j := fun b j q1 q2 => by rw [zu_ne _ _ (by omega), e1 b j q1, zu_ne _ _ (by omega)]
        refine ⟨a1.mv (fun j _ => f2 _ _ (by omega) (by omega)), a2.c (f2 _ _ (by omega) (by omega)) (fun j => f2 _ _ (by omega) (by omega)), ⟨?_, ?_, fun i hi => ?_⟩, ⟨(f2 _ _ (by omega) (by omega)).trans a4.1, (f2 _ _ (by omega) (by omega)).trans a4.2.1, (f2 _ _ (by omega) (by omega)).trans a4.2.2⟩, a5.c (f2 _ _ (by omega) (by omega)) (fun j => f2 _ _ (by omega) (by omega)) (fun j => f2 _ _ (by omega) (by omega)), ?_, a7.c (f2 _ _ (by omega) (by omega)) (fun j => f2 _ _ (by omega) (by omega))⟩
        · rw [zu_eq]; show _ = (((aT A ++ (zbs a ++ (zbs b ++ (zbs c ++ (zbs d ++ zbs e))))).length : Nat) : Int); rw [List.length_append]; rfl
        · show (aT A ++ (zbs a ++ (zbs b ++ (zbs c ++ (zbs d ++ zbs e))))).length ≤ 700; rw [List.length_append, show (zbs a ++ (zbs b ++ (zbs c ++ (zbs d ++ zbs e)))).length = 20 from rfl]; omega
        · have hi : i < (aT A ++ (zbs a ++ (zbs b ++ (zbs c ++ (zbs d ++ zbs e))))).length := hi
          rw [List.length_append, show (zbs a ++ (zbs b ++ (zbs c ++ (zbs d ++ zbs e)))).length = 20 from rfl] at hi
          rw [zu_a _ _ (by omega)]
          show σs (C + 1) i = (aT A ++ (zbs a ++ (zbs b ++ (zbs c ++ (zbs d ++ zbs e))))).getD i 0 ∧ 0 ≤ (aT A ++ (zbs a ++ (zbs b ++ (zbs c ++ (zbs d ++ zbs e))))).getD i 0 ∧ (aT A ++ (zbs a ++ (zbs b ++ (zbs c ++ (zbs d ++ zbs e))))).getD i 0 ≤ 255
          by_cases q : i < (aT A).length
          · have : (aT A ++ (zbs a ++ (zbs b ++ (zbs c ++ (zbs d ++ zbs e))))).getD i 0 = (aT A).getD i 0 := by simp only [List.getD_eq_getElem?_getD]; rw [List.getElem?_append_left q]
            rw [this, e2 i q]; exact t3 i q
          · have : (aT A ++ (zbs a ++ (zbs b ++ (zbs c ++ (zbs d ++ zbs e))))).getD i 0 = (zbs a ++ (zbs b ++ (zbs c ++ (zbs d ++ zbs e)))).getD (i - (aT A).length) 0 := by simp only [List.getD_eq_getElem?_getD]; rw [List.getElem?_append_right (by omega)]
            have h3 := e3 (i - (aT A).length) (by omega)
            rw [show (aT A).length + (i - (aT A).length) = i by omega] at h3
            rw [this, h3]; exact ⟨rfl, zbs_r (by omega)⟩
        · show mrG C _ τ (aG A)
          generalize aG A = g at a6
          cases g with
          | none => exact (f2 C 32 (by omega) (by omega)).trans a6
          | some g => exact ⟨(f2 C 32 (by omega) (by omega)).trans a6.1, a6.2.1.c (f2 _ _ (by omega) (by omega)) (f2 _ _ (by omega) (by omega)) (fun j hj => f2 _ _ (by omega) (by omega)) (fun j hj => ⟨rfl, rfl⟩), a6.2.2.mv (fun j _ => f2 _ _ (by omega) (by omega))⟩
      refine zw_iload 25 rfl dX11_feed_23 rfl ?_
      refine zw_bipush 27 rfl dX11_feed_25 rfl ?_
      refine zw_icmp_ge 113 30 rfl dX11_feed_27 (by decide) (by omega) (by omega) (fun h_27 => ?_) (fun h_27 => ?_)
      · refine zw_aload_n 114 rfl dX11_feed_113 rfl ?_
        refine zw_dup 115 rfl dX11_feed_114 rfl ?_
        refine zw_geti 118 rfl dX11_feed_115 fl_X11_91 (by first | assumption | exact zm_o0 | exact zm_o _ _ _ rfl) ?_
        rw [e4]
        refine zw_bipush 120 rfl dX11_feed_118 rfl ?_
        refine zw_iadd 121 rfl dX11_feed_120 ?_
        refine zw_puti 124 rfl dX11_feed_121 fp_X11_91 (by first | assumption | exact zm_o0 | exact zm_o _ _ _ rfl) ?_
        refine zw_aload_n 125 rfl dX11_feed_124 rfl ?_
        refine zw_geti 128 rfl dX11_feed_125 fl_X11_91 (by first | assumption | exact zm_o0 | exact zm_o _ _ _ rfl) ?_
        rw [zu_eq]
        refine zw_iret (st := []) dX11_feed_128 rfl ?_
        unfold sp_feed
        rw [if_neg (by omega)]
        exact ⟨rfl, _, _, rfl, fin⟩
      · exfalso; omega
    · intro k hk ih σs e1 e2 e3
      have e4 : σs C 4 = (aT A).length := by rw [e1 _ _ (by omega), zu_k _ _ (by omega), tl]
      refine zw_iload 25 rfl dX11_feed_23 rfl ?_
      refine zw_bipush 27 rfl dX11_feed_25 rfl ?_
      refine zw_icmp_ge 113 30 rfl dX11_feed_27 (by decide) (by omega) (by omega) (fun h_27 => ?_) (fun h_27 => ?_)
      · exfalso; omega
      · refine zw_iload 32 rfl dX11_feed_30 rfl ?_
        refine zw_iconst 33 rfl dX11_feed_32 ?_
        refine zw_icmp_ge 40 36 rfl dX11_feed_33 (by decide) (by omega) (by omega) (fun h_33 => ?_) (fun h_33 => ?_)
        · refine zw_iload 42 rfl dX11_feed_40 rfl ?_
          refine zw_bipush 44 rfl dX11_feed_42 rfl ?_
          refine zw_icmp_ge 51 47 rfl dX11_feed_44 (by decide) (by omega) (by omega) (fun h_44 => ?_) (fun h_44 => ?_)
          · refine zw_iload 53 rfl dX11_feed_51 rfl ?_
            refine zw_bipush 55 rfl dX11_feed_53 rfl ?_
            refine zw_icmp_ge 62 58 rfl dX11_feed_55 (by decide) (by omega) (by omega) (fun h_55 => ?_) (fun h_55 => ?_)
            · refine zw_iload 64 rfl dX11_feed_62 rfl ?_
              refine zw_bipush 66 rfl dX11_feed_64 rfl ?_
              refine zw_icmp_ge 74 69 rfl dX11_feed_66 (by decide) (by omega) (by omega) (fun h_66 => ?_) (fun h_66 => ?_)
              · refine zw_iload 76 rfl dX11_feed_74 rfl ?_
                refine zw_istore 78 rfl dX11_feed_76 (Nat.le_of_ble_eq_true rfl) rfl ?_
                refine zw_aload_n 79 rfl dX11_feed_78 rfl ?_
                refine zw_getr 82 rfl dX11_feed_79 fl_X11_13 (by first | assumption | exact zm_o0 | exact zm_o _ _ _ rfl) (by first | assumption | exact zm_f _ _ rfl) ?_
                refine zw_aload_n 83 rfl dX11_feed_82 rfl ?_
                refine zw_geti 86 rfl dX11_feed_83 fl_X11_91 (by first | assumption | exact zm_o0 | exact zm_o _ _ _ rfl) ?_
                rw [e4]
                refine zw_iload 88 rfl dX11_feed_86 rfl ?_
                refine zw_iadd 89 rfl dX11_feed_88 ?_
                refine zw_iload 91 rfl dX11_feed_89 rfl ?_
                refine zw_bipush 93 rfl dX11_feed_91 rfl ?_
                refine zw_bipush 95 rfl dX11_feed_93 rfl ?_
                refine zw_iload 97 rfl dX11_feed_95 rfl ?_
                refine zw_iconst 98 rfl dX11_feed_97 ?_
                refine zw_irem 99 rfl dX11_feed_98 (by omega) (by omega) ?_
                refine zw_imul 100 rfl dX11_feed_99 ?_
                refine zw_isub 101 rfl dX11_feed_100 ?_
                refine zw_ishr 102 rfl dX11_feed_101 ?_
                refine zw_sipush 105 rfl dX11_feed_102 rfl ?_
                refine zw_iand 106 rfl dX11_feed_105 ?_
                rw [mfd (a := a) (b := b) (c := c) (d := d) (e := e) hk (by first | (rw [if_pos (by omega)]; done) | (rw [if_neg (by omega), if_pos (by omega)]; done) | (rw [if_neg (by omega), if_neg (by omega), if_pos (by omega)]; done) | (rw [if_neg (by omega), if_neg (by omega), if_neg (by omega), if_pos (by omega)]; done) | (rw [if_neg (by omega), if_neg (by omega), if_neg (by omega), if_neg (by omega)]; done)) (by omega)]
                refine zw_iast 107 rfl dX11_feed_106 (by first | assumption | exact zm_o0 | exact zm_o _ _ _ rfl) (by omega) (by omega) ?_
                refine zw_iinc 110 rfl dX11_feed_107 (Nat.le_of_ble_eq_true rfl) rfl rfl ?_
                refine zw_goto 23 dX11_feed_110 (by decide) ?_
                refine zw_drop 7 ?_
                rw [show (((aT A).length : Int) + (k : Int)).toNat = (aT A).length + k by omega]
                refine ih _ (fun b j hb => by rw [zu_a _ _ hb]; exact e1 b j hb) (fun j hj => by rw [zu_k _ _ (by omega)]; exact e2 j hj) (fun j hj => ?_)
                by_cases q : j = k
                · subst q; rw [zu_eq]
                · rw [zu_k _ _ (by omega)]; exact e3 j (by omega)
              · refine zw_iload 71 rfl dX11_feed_69 rfl ?_
                refine zw_goto 76 dX11_feed_71 (by decide) ?_
                refine zw_istore 78 rfl dX11_feed_76 (Nat.le_of_ble_eq_true rfl) rfl ?_
                refine zw_aload_n 79 rfl dX11_feed_78 rfl ?_
                refine zw_getr 82 rfl dX11_feed_79 fl_X11_13 (by first | assumption | exact zm_o0 | exact zm_o _ _ _ rfl) (by first | assumption | exact zm_f _ _ rfl) ?_
                refine zw_aload_n 83 rfl dX11_feed_82 rfl ?_
                refine zw_geti 86 rfl dX11_feed_83 fl_X11_91 (by first | assumption | exact zm_o0 | exact zm_o _ _ _ rfl) ?_
                rw [e4]
                refine zw_iload 88 rfl dX11_feed_86 rfl ?_
                refine zw_iadd 89 rfl dX11_feed_88 ?_
                refine zw_iload 91 rfl dX11_feed_89 rfl ?_
                refine zw_bipush 93 rfl dX11_feed_91 rfl ?_
                refine zw_bipush 95 rfl dX11_feed_93 rfl ?_
                refine zw_iload 97 rfl dX11_feed_95 rfl ?_
                refine zw_iconst 98 rfl dX11_feed_97 ?_
                refine zw_irem 99 rfl dX11_feed_98 (by omega) (by omega) ?_
                refine zw_imul 100 rfl dX11_feed_99 ?_
                refine zw_isub 101 rfl dX11_feed_100 ?_
                refine zw_ishr 102 rfl dX11_feed_101 ?_
                refine zw_sipush 105 rfl dX11_feed_102 rfl ?_
                refine zw_iand 106 rfl dX11_feed_105 ?_
                rw [mfd (a := a) (b := b) (c := c) (d := d) (e := e) hk (by first | (rw [if_pos (by omega)]; done) | (rw [if_neg (by omega), if_pos (by omega)]; done) | (rw [if_neg (by omega), if_neg (by omega), if_pos (by omega)]; done) | (rw [if_neg (by omega), if_neg (by omega), if_neg (by omega), if_pos (by omega)]; done) | (rw [if_neg (by omega), if_neg (by omega), if_neg (by omega), if_neg (by omega)]; done)) (by omega)]
                refine zw_iast 107 rfl dX11_feed_106 (by first | assumption | exact zm_o0 | exact zm_o _ _ _ rfl) (by omega) (by omega) ?_
                refine zw_iinc 110 rfl dX11_feed_107 (Nat.le_of_ble_eq_true rfl) rfl rfl ?_
                refine zw_goto 23 dX11_feed_110 (by decide) ?_
                refine zw_drop 7 ?_
                rw [show (((aT A).length : Int) + (k : Int)).toNat = (aT A).length + k by omega]
                refine ih _ (fun b j hb => by rw [zu_a _ _ hb]; exact e1 b j hb) (fun j hj => by rw [zu_k _ _ (by omega)]; exact e2 j hj) (fun j hj => ?_)
                by_cases q : j = k
                · subst q; rw [zu_eq]
                · rw [zu_k _ _ (by omega)]; exact e3 j (by omega)
            · refine zw_iload_n 59 rfl dX11_feed_58 rfl ?_
              refine zw_goto 76 dX11_feed_59 (by decide) ?_
              refine zw_istore 78 rfl dX11_feed_76 (Nat.le_of_ble_eq_true rfl) rfl ?_
              refine zw_aload_n 79 rfl dX11_feed_78 rfl ?_
              refine zw_getr 82 rfl dX11_feed_79 fl_X11_13 (by first | assumption | exact zm_o0 | exact zm_o _ _ _ rfl) (by first | assumption | exact zm_f _ _ rfl) ?_
              refine zw_aload_n 83 rfl dX11_feed_82 rfl ?_
              refine zw_geti 86 rfl dX11_feed_83 fl_X11_91 (by first | assumption | exact zm_o0 | exact zm_o _ _ _ rfl) ?_
              rw [e4]
              refine zw_iload 88 rfl dX11_feed_86 rfl ?_
              refine zw_iadd 89 rfl dX11_feed_88 ?_
              refine zw_iload 91 rfl dX11_feed_89 rfl ?_
              refine zw_bipush 93 rfl dX11_feed_91 rfl ?_
              refine zw_bipush 95 rfl dX11_feed_93 rfl ?_
              refine zw_iload 97 rfl dX11_feed_95 rfl ?_
              refine zw_iconst 98 rfl dX11_feed_97 ?_
              refine zw_irem 99 rfl dX11_feed_98 (by omega) (by omega) ?_
              refine zw_imul 100 rfl dX11_feed_99 ?_
              refine zw_isub 101 rfl dX11_feed_100 ?_
              refine zw_ishr 102 rfl dX11_feed_101 ?_
              refine zw_sipush 105 rfl dX11_feed_102 rfl ?_
              refine zw_iand 106 rfl dX11_feed_105 ?_
              rw [mfd (a := a) (b := b) (c := c) (d := d) (e := e) hk (by first | (rw [if_pos (by omega)]; done) | (rw [if_neg (by omega), if_pos (by omega)]; done) | (rw [if_neg (by omega), if_neg (by omega), if_pos (by omega)]; done) | (rw [if_neg (by omega), if_neg (by omega), if_neg (by omega), if_pos (by omega)]; done) | (rw [if_neg (by omega), if_neg (by omega), if_neg (by omega), if_neg (by omega)]; done)) (by omega)]
              refine zw_iast 107 rfl dX11_feed_106 (by first | assumption | exact zm_o0 | exact zm_o _ _ _ rfl) (by omega) (by omega) ?_
              refine zw_iinc 110 rfl dX11_feed_107 (Nat.le_of_ble_eq_true rfl) rfl rfl ?_
              refine zw_goto 23 dX11_feed_110 (by decide) ?_
              refine zw_drop 7 ?_
              rw [show (((aT A).length : Int) + (k : Int)).toNat = (aT A).length + k by omega]
              refine ih _ (fun b j hb => by rw [zu_a _ _ hb]; exact e1 b j hb) (fun j hj => by rw [zu_k _ _ (by omega)]; exact e2 j hj) (fun j hj => ?_)
              by_cases q : j = k
              · subst q; rw [zu_eq]
              · rw [zu_k _ _ (by omega)]; exact e3 j (by omega)
          · refine zw_iload_n 48 rfl dX11_feed_47 rfl ?_
            refine zw_goto 76 dX11_feed_48 (by decide) ?_
            refine zw_istore 78 rfl dX11_feed_76 (Nat.le_of_ble_eq_true rfl) rfl ?_
            refine zw_aload_n 79 rfl dX11_feed_78 rfl ?_
            refine zw_getr 82 rfl dX11_feed_79 fl_X11_13 (by first | assumption | exact zm_o0 | exact zm_o _ _ _ rfl) (by first | assumption | exact zm_f _ _ rfl) ?_
            refine zw_aload_n 83 rfl dX11_feed_82 rfl ?_
            refine zw_geti 86 rfl dX11_feed_83 fl_X11_91 (by first | assumption | exact zm_o0 | exact zm_o _ _ _ rfl) ?_
            rw [e4]
            refine zw_iload 88 rfl dX11_feed_86 rfl ?_
            refine zw_iadd 89 rfl dX11_feed_88 ?_
            refine zw_iload 91 rfl dX11_feed_89 rfl ?_
            refine zw_bipush 93 rfl dX11_feed_91 rfl ?_
            refine zw_bipush 95 rfl dX11_feed_93 rfl ?_
            refine zw_iload 97 rfl dX11_feed_95 rfl ?_
            refine zw_iconst 98 rfl dX11_feed_97 ?_
            refine zw_irem 99 rfl dX11_feed_98 (by omega) (by omega) ?_
            refine zw_imul 100 rfl dX11_feed_99 ?_
            refine zw_isub 101 rfl dX11_feed_100 ?_
            refine zw_ishr 102 rfl dX11_feed_101 ?_
            refine zw_sipush 105 rfl dX11_feed_102 rfl ?_
            refine zw_iand 106 rfl dX11_feed_105 ?_
            rw [mfd (a := a) (b := b) (c := c) (d := d) (e := e) hk (by first | (rw [if_pos (by omega)]; done) | (rw [if_neg (by omega), if_pos (by omega)]; done) | (rw [if_neg (by omega), if_neg (by omega), if_pos (by omega)]; done) | (rw [if_neg (by omega), if_neg (by omega), if_neg (by omega), if_pos (by omega)]; done) | (rw [if_neg (by omega), if_neg (by omega), if_neg (by omega), if_neg (by omega)]; done)) (by omega)]
            refine zw_iast 107 rfl dX11_feed_106 (by first | assumption | exact zm_o0 | exact zm_o _ _ _ rfl) (by omega) (by omega) ?_
            refine zw_iinc 110 rfl dX11_feed_107 (Nat.le_of_ble_eq_true rfl) rfl rfl ?_
            refine zw_goto 23 dX11_feed_110 (by decide) ?_
            refine zw_drop 7 ?_
            rw [show (((aT A).length : Int) + (k : Int)).toNat = (aT A).length + k by omega]
            refine ih _ (fun b j hb => by rw [zu_a _ _ hb]; exact e1 b j hb) (fun j hj => by rw [zu_k _ _ (by omega)]; exact e2 j hj) (fun j hj => ?_)
            by_cases q : j = k
            · subst q; rw [zu_eq]
            · rw [zu_k _ _ (by omega)]; exact e3 j (by omega)
        · refine zw_iload_n 37 rfl dX11_feed_36 rfl ?_
          refine zw_goto 76 dX11_feed_37 (by decide) ?_
          refine zw_istore 78 rfl dX11_feed_76 (Nat.le_of_ble_eq_true rfl) rfl ?_
          refine zw_aload_n 79 rfl dX11_feed_78 rfl ?_
          refine zw_getr 82 rfl dX11_feed_79 fl_X11_13 (by first | assumption | exact zm_o0 | exact zm_o _ _ _ rfl) (by first | assumption | exact zm_f _ _ rfl) ?_
          refine zw_aload_n 83 rfl dX11_feed_82 rfl ?_
          refine zw_geti 86 rfl dX11_feed_83 fl_X11_91 (by first | assumption | exact zm_o0 | exact zm_o _ _ _ rfl) ?_
          rw [e4]
          refine zw_iload 88 rfl dX11_feed_86 rfl ?_
          refine zw_iadd 89 rfl dX11_feed_88 ?_
          refine zw_iload 91 rfl dX11_feed_89 rfl ?_
          refine zw_bipush 93 rfl dX11_feed_91 rfl ?_
          refine zw_bipush 95 rfl dX11_feed_93 rfl ?_
          refine zw_iload 97 rfl dX11_feed_95 rfl ?_
          refine zw_iconst 98 rfl dX11_feed_97 ?_
          refine zw_irem 99 rfl dX11_feed_98 (by omega) (by omega) ?_
          refine zw_imul 100 rfl dX11_feed_99 ?_
          refine zw_isub 101 rfl dX11_feed_100 ?_
          refine zw_ishr 102 rfl dX11_feed_101 ?_
          refine zw_sipush 105 rfl dX11_feed_102 rfl ?_
          refine zw_iand 106 rfl dX11_feed_105 ?_
          rw [mfd (a := a) (b := b) (c := c) (d := d) (e := e) hk (by first | (rw [if_pos (by omega)]; done) | (rw [if_neg (by omega), if_pos (by omega)]; done) | (rw [if_neg (by omega), if_neg (by omega), if_pos (by omega)]; done) | (rw [if_neg (by omega), if_neg (by omega), if_neg (by omega), if_pos (by omega)]; done) | (rw [if_neg (by omega), if_neg (by omega), if_neg (by omega), if_neg (by omega)]; done)) (by omega)]
          refine zw_iast 107 rfl dX11_feed_106 (by first | assumption | exact zm_o0 | exact zm_o _ _ _ rfl) (by omega) (by omega) ?_
          refine zw_iinc 110 rfl dX11_feed_107 (Nat.le_of_ble_eq_true rfl) rfl rfl ?_
          refine zw_goto 23 dX11_feed_110 (by decide) ?_
          refine zw_drop 7 ?_
          rw [show (((aT A).length : Int) + (k : Int)).toNat = (aT A).length + k by omega]
          refine ih _ (fun b j hb => by rw [zu_a _ _ hb]; exact e1 b j hb) (fun j hj => by rw [zu_k _ _ (by omega)]; exact e2 j hj) (fun j hj => ?_)
          by_cases q : j = k
          · subst q; rw [zu_eq]
          · rw [zu_k _ _ (by omega)]; exact e3 j (by omega)
  refine zw_aload_n 1 rfl dX11_feed_0 rfl ?_
  refine zw_iconst 2 rfl dX11_feed_1 ?_
  refine zw_puti 5 rfl dX11_feed_2 fp_X11_85 (by first | assumption | exact zm_o0 | exact zm_o _ _ _ rfl) ?_
  refine zw_aload_n 6 rfl dX11_feed_5 rfl ?_
  refine zw_geti 9 rfl dX11_feed_6 fl_X11_91 (by first | assumption | exact zm_o0 | exact zm_o _ _ _ rfl) ?_
  rw [zu_k _ _ (by omega), tl]
  refine zw_bipush 11 rfl dX11_feed_9 rfl ?_
  refine zw_iadd 12 rfl dX11_feed_11 ?_
  refine zw_sipush 15 rfl dX11_feed_12 rfl ?_
  refine zw_icmp_le 20 18 rfl dX11_feed_15 (by decide) (by omega) (by omega) (fun h_15 => ?_) (fun h_15 => ?_)
  · refine zw_iconst 21 rfl dX11_feed_20 ?_
    refine zw_istore 23 rfl dX11_feed_21 (Nat.le_of_ble_eq_true rfl) rfl ?_
    exact key h_15 _ (fun _ _ _ => rfl) (fun j _ => zu_a _ _ (by omega)) (fun j hj => absurd hj (by omega))
  · refine zw_iconst 19 rfl dX11_feed_18 ?_
    refine zw_iret (st := []) dX11_feed_19 rfl ?_
    unfold sp_feed
    rw [if_pos (by omega)]
    exact ⟨rfl, _, _, rfl, E⟩
/-! ===== letter, thrown ===== -/
def mQt (C : Nat) (r : Int) (A : zA) (th : Int) : Option Value → zWd → Prop := fun v w => v = some (vi r) ∧ ∃ σ' τ' : zSt, w = (zmS C, σ', τ') ∧ zmR C σ' τ' A ∧ σ' C 0 = th
theorem Y_letter {G : zG} {C : Nat} {σ τ : zSt} {A : zA} {p k : Int} (h : zmR C σ τ A) (hp : -2147483648 ≤ p ∧ p ≤ 2147483647) (hk : -2147483648 ≤ k ∧ k ≤ 2147483647) : zC G M_X11_letter [.ref C, vi p, vi k] (zmS C, σ, τ) (mQt C (if aHasL A p k then aLet A p k else 0) A (if aHasL A p k then 0 else 1)) := by
  obtain ⟨n1, n2, n3⟩ := h.2.2.2.2.1
  have n1 : σ C 20 = ((aN A).length : Int) := n1
  have n2 : (aN A).length ≤ 4 := n2
  have E := fun v => mSame h (mThrown (v := v)) mScT.rf (zu_k _ _ (by omega)) (zu_k _ _ (by omega))
  have E2 : zmR C (zu (zu σ C 0 0) C 0 1) τ A := mSame (E 0) (mThrown (v := 1)) mScT.rf (zu_k _ _ (by omega)) (zu_k _ _ (by omega))
  refine zC_of 0 rfl (Nat.le_of_ble_eq_true rfl) ?_
  refine zw_aload_n 1 rfl dX11_letter_0 rfl ?_
  refine zw_iconst 2 rfl dX11_letter_1 ?_
  refine zw_puti 5 rfl dX11_letter_2 fp_X11_85 (by first | assumption | exact zm_o0 | exact zm_o _ _ _ rfl) ?_
  refine zw_iload_n 6 rfl dX11_letter_5 rfl ?_
  refine zw_iconst 7 rfl dX11_letter_6 ?_
  refine zw_aload_n 8 rfl dX11_letter_7 rfl ?_
  refine zw_geti 11 rfl dX11_letter_8 fl_X11_160 (by first | assumption | exact zm_o0 | exact zm_o _ _ _ rfl) ?_
  rw [zu_k _ _ (by omega), n1]
  refine zw_iconst 12 rfl dX11_letter_11 ?_
  refine zw_isub 13 rfl dX11_letter_12 ?_
  refine zw_cSi3 16 rfl dX11_letter_13 kX11_letter_106 (Nat.le_of_ble_eq_true rfl) (m_in (by omega) (by omega) (by omega)) ?_
  refine zw_if_eqB 50 19 rfl dX11_letter_16 (by decide) (fun h_16 => ?_) (fun h_16 => ?_)
  · refine zw_aload_n 51 rfl dX11_letter_50 rfl ?_
    refine zw_iconst 52 rfl dX11_letter_51 ?_
    refine zw_puti 55 rfl dX11_letter_52 fp_X11_85 (by first | assumption | exact zm_o0 | exact zm_o _ _ _ rfl) ?_
    refine zw_iconst 56 rfl dX11_letter_55 ?_
    have hh : ¬ aHasL A p k := fun q => by first | exact h_16 (by omega) | exact h_32 (by have := q.2; omega)
    rw [if_neg hh, if_neg hh]
    exact zw_iret (st := []) dX11_letter_56 rfl ⟨rfl, _, _, rfl, E2, zu_eq _ _ _ _⟩
  · have m1 := n3 p.toNat (by omega)
    refine zw_iload_n 20 rfl dX11_letter_19 rfl ?_
    refine zw_iconst 21 rfl dX11_letter_20 ?_
    refine zw_aload_n 22 rfl dX11_letter_21 rfl ?_
    refine zw_getr 25 rfl dX11_letter_22 fl_X11_35 (by first | assumption | exact zm_o0 | exact zm_o _ _ _ rfl) (by first | assumption | exact zm_f _ _ rfl) ?_
    refine zw_iload_n 26 rfl dX11_letter_25 rfl ?_
    refine zw_iald 27 rfl dX11_letter_26 (by first | assumption | exact zm_o0 | exact zm_o _ _ _ rfl) (by omega) (by omega) ?_
    rw [zu_a _ _ (by omega), m1.1]
    have m2 := m1.2.1
    refine zw_iconst 28 rfl dX11_letter_27 ?_
    refine zw_isub 29 rfl dX11_letter_28 ?_
    refine zw_cSi3 32 rfl dX11_letter_29 kX11_letter_106 (Nat.le_of_ble_eq_true rfl) (m_in (by omega) (by omega) (by omega)) ?_
    refine zw_if_eqB 50 35 rfl dX11_letter_32 (by decide) (fun h_32 => ?_) (fun h_32 => ?_)
    · refine zw_aload_n 51 rfl dX11_letter_50 rfl ?_
      refine zw_iconst 52 rfl dX11_letter_51 ?_
      refine zw_puti 55 rfl dX11_letter_52 fp_X11_85 (by first | assumption | exact zm_o0 | exact zm_o _ _ _ rfl) ?_
      refine zw_iconst 56 rfl dX11_letter_55 ?_
      have hh : ¬ aHasL A p k := fun q => by first | exact h_16 (by omega) | exact h_32 (by have := q.2; omega)
      rw [if_neg hh, if_neg hh]
      exact zw_iret (st := []) dX11_letter_56 rfl ⟨rfl, _, _, rfl, E2, zu_eq _ _ _ _⟩
    · have m3 := m1.2.2 k.toNat (by omega)
      refine zw_aload_n 36 rfl dX11_letter_35 rfl ?_
      refine zw_getr 39 rfl dX11_letter_36 fl_X11_32 (by first | assumption | exact zm_o0 | exact zm_o _ _ _ rfl) (by first | assumption | exact zm_f _ _ rfl) ?_
      refine zw_bipush 41 rfl dX11_letter_39 rfl ?_
      refine zw_iload_n 42 rfl dX11_letter_41 rfl ?_
      refine zw_imul 43 rfl dX11_letter_42 ?_
      refine zw_iload_n 44 rfl dX11_letter_43 rfl ?_
      refine zw_iadd 45 rfl dX11_letter_44 ?_
      refine zw_iald 46 rfl dX11_letter_45 (by first | assumption | exact zm_o0 | exact zm_o _ _ _ rfl) (by omega) (by omega) ?_
      rw [zu_a _ _ (by omega), show (16 * p + k).toNat = 16 * p.toNat + k.toNat by omega, m3.1]
      refine zw_bipush 48 rfl dX11_letter_46 rfl ?_
      refine zw_isub 49 rfl dX11_letter_48 ?_
      have hh : aHasL A p k := ⟨by omega, by omega⟩
      rw [if_pos hh, if_pos hh]
      exact zw_iret (st := []) dX11_letter_49 rfl ⟨by show _ = some (vi (((aN A).getD p.toNat []).getD k.toNat 0)); congr 2; omega, _, _, rfl, E 0, zu_eq _ _ _ _⟩
theorem Y_thrown {G : zG} {C : Nat} {σ τ : zSt} : zC G M_X11_thrown [.ref C] (zmS C, σ, τ) (zR (some (vi (σ C 0))) (zmS C, σ, τ)) := by
  refine zC_of 0 rfl (Nat.le_of_ble_eq_true rfl) ?_
  refine zw_aload_n 1 rfl dX11_thrown_0 rfl ?_
  refine zw_geti 4 rfl dX11_thrown_1 fl_X11_85 (by first | assumption | exact zm_o0 | exact zm_o _ _ _ rfl) ?_
  exact zw_iretR dX11_thrown_4 rfl rfl rfl
