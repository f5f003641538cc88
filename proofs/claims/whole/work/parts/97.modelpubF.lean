/-! ===== what shades tell of a picture, by how often each comes ===== -/
def zcn (p : zPc) : Nat → Int := zwin 0 p.1 0 p.2.1 (fun x y c v => c v + if p.2.2 x y = v then 1 else 0) (fun _ => 0)
theorem zcn_e (p : zPc) (v : Nat) : zcn p v = aMany p v := by
  unfold zcn aMany
  exact zwin_rel (fun (c : Nat → Int) (n : Int) => c v = n) rfl (fun x y c n hx hy h => by rw [h])
theorem zcn_sum {p : zPc} (hd : aDots p) : zfold (fun v s => s + aMany p v * v) 256 0 = aSum p := by
  have h1 : zfold (fun (v : Nat) (s : Int) => s + aMany p v * v) 256 0 = zS (fun v => zcn p v * v) 256 := zfold_cong _ _ (fun v s hv => by show _ = s + zcn p v * v; rw [zcn_e])
  rw [h1]
  unfold zcn aSum
  refine zwin_rel (fun (c : Nat → Int) (s : Int) => zS (fun v => c v * v) 256 = s) ?_ (fun x y c s hx hy h => ?_)
  · rw [zS_c (g := fun _ => 0) _ (fun i _ => by rw [Int.zero_mul]), zS_k]; simp
  · have hq := hd x y hx hy
    rw [zS_pt (f := fun (v : Nat) => (c v + if p.2.2 x y = v then 1 else 0) * (v : Int)) (g := fun (v : Nat) => c v * (v : Int)) (k := (p.2.2 x y).toNat) 256 (by omega) (fun i hi => by rw [if_neg (by omega), Int.add_zero]), h]
    rw [if_pos (by omega), Int.add_mul, Int.one_mul]
    omega
def zfL (c : Nat → Int) (n : Nat) : Int := zfold (fun v m => if c v = 0 then m else if (v : Int) < m then v else m) n 255
def zfM (c : Nat → Int) (n : Nat) : Int := zfold (fun v m => if c v = 0 then m else v) n 0
theorem zfL_up {c : Nat → Int} {d : Nat} (hc : ∀ v, 0 ≤ c v) : ∀ n, zfL (fun v => c v + if (d : Int) = v then 1 else 0) n = if d < n then (if (d : Int) < zfL c n then (d : Int) else zfL c n) else zfL c n
  | 0 => by rw [if_neg (by omega)]; rfl
  | n + 1 => by
    have ih := zfL_up (c := c) (d := d) hc n
    have hn := hc n
    show (if c n + (if (d : Int) = n then 1 else 0) = 0 then zfL _ n else if (n : Int) < zfL _ n then (n : Int) else zfL _ n) = if d < n + 1 then (if (d : Int) < (if c n = 0 then zfL c n else if (n : Int) < zfL c n then (n : Int) else zfL c n) then (d : Int) else (if c n = 0 then zfL c n else if (n : Int) < zfL c n then (n : Int) else zfL c n)) else (if c n = 0 then zfL c n else if (n : Int) < zfL c n then (n : Int) else zfL c n)
    rw [ih]
    generalize zfL c n = L
    by_cases e : d = n
    · subst e
      rw [if_pos rfl]
      (repeat' split) <;> omega
    · rw [if_neg (show ¬ (d : Int) = n by omega), Int.add_zero]
      by_cases e2 : d < n
      · rw [if_pos e2, if_pos (show d < n + 1 by omega)]
        (repeat' split) <;> omega
      · rw [if_neg e2, if_neg (show ¬ d < n + 1 by omega)]
theorem zfM_le (c : Nat → Int) (n : Nat) : 0 ≤ zfM c n ∧ zfM c n ≤ n := zfold_ind (fun (n : Nat) (m : Int) => 0 ≤ m ∧ m ≤ n) n (by omega) (fun i b hi hb => by (try dsimp only); split <;> omega)
theorem zfM_lt (c : Nat → Int) (n : Nat) : zfM c (n + 1) ≤ n := by
  have := zfM_le c n
  show (if c n = 0 then zfM c n else (n : Int)) ≤ n
  split <;> omega
theorem zfM_up {c : Nat → Int} {d : Nat} (hc : ∀ v, 0 ≤ c v) : ∀ n, zfM (fun v => c v + if (d : Int) = v then 1 else 0) n = if d < n then (if zfM c n < d then (d : Int) else zfM c n) else zfM c n
  | 0 => by rw [if_neg (by omega)]; rfl
  | n + 1 => by
    have ih := zfM_up (c := c) (d := d) hc n
    have hn := hc n
    have hl := zfM_le c n
    show (if c n + (if (d : Int) = n then 1 else 0) = 0 then zfM _ n else (n : Int)) = if d < n + 1 then (if (if c n = 0 then zfM c n else (n : Int)) < d then (d : Int) else (if c n = 0 then zfM c n else (n : Int))) else (if c n = 0 then zfM c n else (n : Int))
    rw [ih]
    generalize zfM c n = L at *
    by_cases e : d = n
    · subst e
      rw [if_pos rfl]
      (repeat' split) <;> omega
    · rw [if_neg (show ¬ (d : Int) = n by omega), Int.add_zero]
      by_cases e2 : d < n
      · rw [if_pos e2, if_pos (show d < n + 1 by omega)]
        (repeat' split) <;> omega
      · rw [if_neg e2, if_neg (show ¬ d < n + 1 by omega)]
theorem zcn_least {p : zPc} (hd : aDots p) : zfL (fun v => aMany p v) 256 = aLeast p := by
  have h1 : zfL (fun v => aMany p v) 256 = zfL (zcn p) 256 := zfold_cong _ _ (fun v s hv => by rw [zcn_e])
  rw [h1]
  unfold zcn aLeast
  refine (zwin_rel (fun (c : Nat → Int) (s : Int) => (∀ v, 0 ≤ c v) ∧ zfL c 256 = s) ⟨fun _ => Int.le_refl _, ?_⟩ (fun x y c s hx hy h => ⟨fun v => ?_, ?_⟩)).2
  · exact zfold_id 256 255
  · have := h.1 v; (try dsimp only); split <;> omega
  · have hq := hd x y hx hy
    have := zfL_up (c := c) (d := (p.2.2 x y).toNat) h.1 256
    rw [show (((p.2.2 x y).toNat : Nat) : Int) = p.2.2 x y by omega, if_pos (by omega), h.2] at this
    exact this
theorem zcn_most {p : zPc} (hd : aDots p) : zfM (fun v => aMany p v) 256 = aMost p := by
  have h1 : zfM (fun v => aMany p v) 256 = zfM (zcn p) 256 := zfold_cong _ _ (fun v s hv => by rw [zcn_e])
  rw [h1]
  unfold zcn aMost
  refine (zwin_rel (fun (c : Nat → Int) (s : Int) => (∀ v, 0 ≤ c v) ∧ zfM c 256 = s) ⟨fun _ => Int.le_refl _, ?_⟩ (fun x y c s hx hy h => ⟨fun v => ?_, ?_⟩)).2
  · exact zfold_id 256 0
  · have := h.1 v; (try dsimp only); split <;> omega
  · have hq := hd x y hx hy
    have := zfM_up (c := c) (d := (p.2.2 x y).toNat) h.1 256
    rw [show (((p.2.2 x y).toNat : Nat) : Int) = p.2.2 x y by omega, if_pos (by omega), h.2] at this
    exact this
theorem aMany_r {p : zPc} {v : Int} (hp : (1 ≤ p.1 ∧ p.1 ≤ 16) ∧ 1 ≤ p.2.1 ∧ p.2.1 ≤ 12) : 0 ≤ aMany p v ∧ aMany p v ≤ 192 := by
  have := zsumD_r (w := p.1) (h := p.2.1) (M := 1) (f := fun x y => if p.2.2 x y = v then 1 else 0) (by omega) (by omega) (by omega) (fun x y _ _ => by split <;> omega)
  have t2 : aMany p v ≤ 192 * 1 := this.2
  exact ⟨this.1, by omega⟩
theorem Y_about {G : zG} {C : Nat} {σ τ : zSt} {A : zA} {p what : Int} (h : zmR C σ τ A) (hp : -2147483648 ≤ p ∧ p ≤ 2147483647) (hwhat : -2147483648 ≤ what ∧ what ≤ 2147483647) : zC G M_X11_about [.ref C, vi p, vi what] (zmS C, σ, τ) (mQ C (sp_about A p what)) := by
  have hP := (mThrown (v := 0)).P h.p
  refine zC_of 6 rfl (Nat.le_of_ble_eq_true rfl) ?_
  have key : aTold A p → (0 ≤ what ∧ what ≤ 5) → 2 ≤ what → zW G M_X11_about (mQ C (sp_about A p what)) 71 [some (.ref C), some (vi p), some (vi what), some (vi (zfL (fun v => aMany (A.1 p.toNat) v) 0)), some (vi (zfM (fun v => aMany (A.1 p.toNat) v) 0)), some (vi (zfold (fun v s => s + aMany (A.1 p.toNat) v * v) 0 0)), some (vi (zfold (fun v m => m + if 0 < aMany (A.1 p.toNat) v then 1 else 0) 0 0)), some (vi (0 : Nat)), none] [] (zmS C, zu σ C 0 0, τ) := by
    intro hc1 hc2 hw2
    have hq1 := hP.pc hc1
    have hw := hq1.wh
    have hr : ∀ n : Nat, n ≤ 256 → 0 ≤ zfL (fun v => aMany (A.1 p.toNat) v) n ∧ zfL (fun v => aMany (A.1 p.toNat) v) n ≤ 255 := fun n hn => zfold_ind (fun (_ : Nat) (m : Int) => 0 ≤ m ∧ m ≤ 255) n (by omega) (fun i b hi hb => by dsimp only; (repeat' split) <;> omega)
    refine zloop (n := 256) (L := fun k => zW G M_X11_about (mQ C (sp_about A p what)) 71 [some (.ref C), some (vi p), some (vi what), some (vi (zfL (fun v => aMany (A.1 p.toNat) v) k)), some (vi (zfM (fun v => aMany (A.1 p.toNat) v) k)), some (vi (zfold (fun v s => s + aMany (A.1 p.toNat) v * v) k 0)), some (vi (zfold (fun v m => m + if 0 < aMany (A.1 p.toNat) v then 1 else 0) k 0)), some (vi k), none] [] (zmS C, zu σ C 0 0, τ)) ?_ ?_
    · rw [zcn_least hq1.dots, zcn_most hq1.dots, zcn_sum hq1.dots]
      refine zw_iload 73 rfl dX11_about_71 rfl ?_
      refine zw_sipush 76 rfl dX11_about_73 rfl ?_
      refine zw_icmp_gt 132 79 rfl dX11_about_76 (by decide) (by omega) (by omega) (fun h_76 => ?_) (fun h_76 => ?_)
      · refine zw_aload_n 133 rfl dX11_about_132 rfl ?_
        refine zw_iload_n 134 rfl dX11_about_133 rfl ?_
        refine zw_iconst 135 rfl dX11_about_134 ?_
        refine zw_icmp_ne 142 138 rfl dX11_about_135 (by decide) (by omega) (by omega) (fun h_135 => ?_) (fun h_135 => ?_)
        · refine zw_iload_n 143 rfl dX11_about_142 rfl ?_
          refine zw_iconst 144 rfl dX11_about_143 ?_
          refine zw_icmp_ne 152 147 rfl dX11_about_144 (by decide) (by omega) (by omega) (fun h_144 => ?_) (fun h_144 => ?_)
          · refine zw_iload_n 153 rfl dX11_about_152 rfl ?_
            refine zw_iconst 154 rfl dX11_about_153 ?_
            refine zw_icmp_ne 162 157 rfl dX11_about_154 (by decide) (by omega) (by omega) (fun h_154 => ?_) (fun h_154 => ?_)
            · refine zw_iload 164 rfl dX11_about_162 rfl ?_
              refine zw_cVi1 167 rfl dX11_about_164 kX11_about_157 (Nat.le_of_ble_eq_true rfl) (by first | assumption | exact zm_o0 | exact zm_o _ _ _ rfl) m_good ?_
              exact zw_iret (st := []) dX11_about_167 rfl (mRead h mThrown mScT.rf (by rw [if_pos hc1, if_pos hc2]) (by first | (rw [if_neg (by omega), if_neg (by omega), if_pos h_135]; done) | (rw [if_neg (by omega), if_neg (by omega), if_neg h_135, if_pos h_144]; done) | (rw [if_neg (by omega), if_neg (by omega), if_neg h_135, if_neg h_144, if_pos h_154]; done) | (rw [if_neg (by omega), if_neg (by omega), if_neg h_135, if_neg h_144, if_neg h_154]; rfl)) rfl)
            · refine zw_iload 159 rfl dX11_about_157 rfl ?_
              refine zw_goto 164 dX11_about_159 (by decide) ?_
              refine zw_cVi1 167 rfl dX11_about_164 kX11_about_157 (Nat.le_of_ble_eq_true rfl) (by first | assumption | exact zm_o0 | exact zm_o _ _ _ rfl) m_good ?_
              exact zw_iret (st := []) dX11_about_167 rfl (mRead h mThrown mScT.rf (by rw [if_pos hc1, if_pos hc2]) (by first | (rw [if_neg (by omega), if_neg (by omega), if_pos h_135]; done) | (rw [if_neg (by omega), if_neg (by omega), if_neg h_135, if_pos h_144]; done) | (rw [if_neg (by omega), if_neg (by omega), if_neg h_135, if_neg h_144, if_pos h_154]; done) | (rw [if_neg (by omega), if_neg (by omega), if_neg h_135, if_neg h_144, if_neg h_154]; rfl)) rfl)
          · refine zw_iload 149 rfl dX11_about_147 rfl ?_
            refine zw_goto 164 dX11_about_149 (by decide) ?_
            refine zw_cVi1 167 rfl dX11_about_164 kX11_about_157 (Nat.le_of_ble_eq_true rfl) (by first | assumption | exact zm_o0 | exact zm_o _ _ _ rfl) m_good ?_
            exact zw_iret (st := []) dX11_about_167 rfl (mRead h mThrown mScT.rf (by rw [if_pos hc1, if_pos hc2]) (by first | (rw [if_neg (by omega), if_neg (by omega), if_pos h_135]; done) | (rw [if_neg (by omega), if_neg (by omega), if_neg h_135, if_pos h_144]; done) | (rw [if_neg (by omega), if_neg (by omega), if_neg h_135, if_neg h_144, if_pos h_154]; done) | (rw [if_neg (by omega), if_neg (by omega), if_neg h_135, if_neg h_144, if_neg h_154]; rfl)) rfl)
        · refine zw_iload_n 139 rfl dX11_about_138 rfl ?_
          refine zw_goto 164 dX11_about_139 (by decide) ?_
          refine zw_cVi1 167 rfl dX11_about_164 kX11_about_157 (Nat.le_of_ble_eq_true rfl) (by first | assumption | exact zm_o0 | exact zm_o _ _ _ rfl) m_good ?_
          exact zw_iret (st := []) dX11_about_167 rfl (mRead h mThrown mScT.rf (by rw [if_pos hc1, if_pos hc2]) (by first | (rw [if_neg (by omega), if_neg (by omega), if_pos h_135]; done) | (rw [if_neg (by omega), if_neg (by omega), if_neg h_135, if_pos h_144]; done) | (rw [if_neg (by omega), if_neg (by omega), if_neg h_135, if_neg h_144, if_pos h_154]; done) | (rw [if_neg (by omega), if_neg (by omega), if_neg h_135, if_neg h_144, if_neg h_154]; rfl)) rfl)
      · omega
    · intro k hk ih
      have hm := aMany_r (p := A.1 p.toNat) (v := k) hw
      have hrk := hr k (by omega)
      have e1 : zfL (fun v => aMany (A.1 p.toNat) v) (k + 1) = if aMany (A.1 p.toNat) k = 0 then zfL (fun v => aMany (A.1 p.toNat) v) k else if (k : Int) < zfL (fun v => aMany (A.1 p.toNat) v) k then k else zfL (fun v => aMany (A.1 p.toNat) v) k := rfl
      have e2 : zfM (fun v => aMany (A.1 p.toNat) v) (k + 1) = if aMany (A.1 p.toNat) k = 0 then zfM (fun v => aMany (A.1 p.toNat) v) k else k := rfl
      have e3 : zfold (fun (v : Nat) (s : Int) => s + aMany (A.1 p.toNat) v * v) (k + 1) 0 = zfold (fun (v : Nat) (s : Int) => s + aMany (A.1 p.toNat) v * v) k 0 + aMany (A.1 p.toNat) k * k := rfl
      have e4 : zfold (fun (v : Nat) (m : Int) => m + if 0 < aMany (A.1 p.toNat) v then 1 else 0) (k + 1) 0 = zfold (fun (v : Nat) (m : Int) => m + if 0 < aMany (A.1 p.toNat) v then 1 else 0) k 0 + if 0 < aMany (A.1 p.toNat) k then 1 else 0 := rfl
      rw [e1, e2, e3, e4] at ih
      refine zw_iload 73 rfl dX11_about_71 rfl ?_
      refine zw_sipush 76 rfl dX11_about_73 rfl ?_
      refine zw_icmp_gt 132 79 rfl dX11_about_76 (by decide) (by omega) (by omega) (fun h_76 => ?_) (fun h_76 => ?_)
      · omega
      · refine zw_aload_n 80 rfl dX11_about_79 rfl ?_
        refine zw_iload_n 81 rfl dX11_about_80 rfl ?_
        refine zw_iload 83 rfl dX11_about_81 rfl ?_
        refine zw_cVi2 86 rfl dX11_about_83 kX11_about_186 (Nat.le_of_ble_eq_true rfl) (by first | assumption | exact zm_o0 | exact zm_o _ _ _ rfl) (m_manyOf hq1 (by omega)) ?_
        refine zw_istore 88 rfl dX11_about_86 (Nat.le_of_ble_eq_true rfl) rfl ?_
        refine zw_iload 90 rfl dX11_about_88 rfl ?_
        refine zw_if_ne 96 93 rfl dX11_about_90 (by decide) (by omega) (fun h_90 => ?_) (fun h_90 => ?_)
        · refine zw_iload 98 rfl dX11_about_96 rfl ?_
          refine zw_iload_n 99 rfl dX11_about_98 rfl ?_
          refine zw_icmp_ge 107 102 rfl dX11_about_99 (by decide) (by omega) (by omega) (fun h_99 => ?_) (fun h_99 => ?_)
          · refine zw_iload_n 108 rfl dX11_about_107 rfl ?_
            refine zw_istore_n 109 rfl dX11_about_108 (Nat.le_of_ble_eq_true rfl) rfl ?_
            refine zw_iload 111 rfl dX11_about_109 rfl ?_
            refine zw_istore 113 rfl dX11_about_111 (Nat.le_of_ble_eq_true rfl) rfl ?_
            refine zw_iload 115 rfl dX11_about_113 rfl ?_
            refine zw_iload 117 rfl dX11_about_115 rfl ?_
            refine zw_iload 119 rfl dX11_about_117 rfl ?_
            refine zw_imul 120 rfl dX11_about_119 ?_
            refine zw_iadd 121 rfl dX11_about_120 ?_
            refine zw_istore 123 rfl dX11_about_121 (Nat.le_of_ble_eq_true rfl) rfl ?_
            refine zw_iinc 126 rfl dX11_about_123 (Nat.le_of_ble_eq_true rfl) rfl rfl ?_
            refine zw_iinc 129 rfl dX11_about_126 (Nat.le_of_ble_eq_true rfl) rfl rfl ?_
            refine zw_goto 71 dX11_about_129 (by decide) ?_
            refine zw_drop 8 ?_
            first
            | (rw [if_pos h_90, if_pos h_90, if_neg (by omega), h_90, Int.zero_mul, Int.add_zero, Int.add_zero] at ih; exact ih)
            | (rw [if_neg h_90, if_neg h_90, if_pos (show 0 < aMany (A.1 p.toNat) k by omega), if_pos (show (k : Int) < zfL (fun v => aMany (A.1 p.toNat) v) k by omega)] at ih; exact ih)
            | (rw [if_neg h_90, if_neg h_90, if_pos (show 0 < aMany (A.1 p.toNat) k by omega), if_neg (show ¬ (k : Int) < zfL (fun v => aMany (A.1 p.toNat) v) k by omega)] at ih; exact ih)
          · refine zw_iload 104 rfl dX11_about_102 rfl ?_
            refine zw_goto 108 dX11_about_104 (by decide) ?_
            refine zw_istore_n 109 rfl dX11_about_108 (Nat.le_of_ble_eq_true rfl) rfl ?_
            refine zw_iload 111 rfl dX11_about_109 rfl ?_
            refine zw_istore 113 rfl dX11_about_111 (Nat.le_of_ble_eq_true rfl) rfl ?_
            refine zw_iload 115 rfl dX11_about_113 rfl ?_
            refine zw_iload 117 rfl dX11_about_115 rfl ?_
            refine zw_iload 119 rfl dX11_about_117 rfl ?_
            refine zw_imul 120 rfl dX11_about_119 ?_
            refine zw_iadd 121 rfl dX11_about_120 ?_
            refine zw_istore 123 rfl dX11_about_121 (Nat.le_of_ble_eq_true rfl) rfl ?_
            refine zw_iinc 126 rfl dX11_about_123 (Nat.le_of_ble_eq_true rfl) rfl rfl ?_
            refine zw_iinc 129 rfl dX11_about_126 (Nat.le_of_ble_eq_true rfl) rfl rfl ?_
            refine zw_goto 71 dX11_about_129 (by decide) ?_
            refine zw_drop 8 ?_
            first
            | (rw [if_pos h_90, if_pos h_90, if_neg (by omega), h_90, Int.zero_mul, Int.add_zero, Int.add_zero] at ih; exact ih)
            | (rw [if_neg h_90, if_neg h_90, if_pos (show 0 < aMany (A.1 p.toNat) k by omega), if_pos (show (k : Int) < zfL (fun v => aMany (A.1 p.toNat) v) k by omega)] at ih; exact ih)
            | (rw [if_neg h_90, if_neg h_90, if_pos (show 0 < aMany (A.1 p.toNat) k by omega), if_neg (show ¬ (k : Int) < zfL (fun v => aMany (A.1 p.toNat) v) k by omega)] at ih; exact ih)
        · refine zw_goto 126 dX11_about_93 (by decide) ?_
          refine zw_iinc 129 rfl dX11_about_126 (Nat.le_of_ble_eq_true rfl) rfl rfl ?_
          refine zw_goto 71 dX11_about_129 (by decide) ?_
          refine zw_drop 8 ?_
          first
          | (rw [if_pos h_90, if_pos h_90, if_neg (by omega), h_90, Int.zero_mul, Int.add_zero, Int.add_zero] at ih; exact ih)
          | (rw [if_neg h_90, if_neg h_90, if_pos (show 0 < aMany (A.1 p.toNat) k by omega), if_pos (show (k : Int) < zfL (fun v => aMany (A.1 p.toNat) v) k by omega)] at ih; exact ih)
          | (rw [if_neg h_90, if_neg h_90, if_pos (show 0 < aMany (A.1 p.toNat) k by omega), if_neg (show ¬ (k : Int) < zfL (fun v => aMany (A.1 p.toNat) v) k by omega)] at ih; exact ih)
  refine zw_aload_n 1 rfl dX11_about_0 rfl ?_
  refine zw_iconst 2 rfl dX11_about_1 ?_
  refine zw_puti 5 rfl dX11_about_2 fp_X11_85 (by first | assumption | exact zm_o0 | exact zm_o _ _ _ rfl) ?_
  refine zw_aload_n 6 rfl dX11_about_5 rfl ?_
  refine zw_iload_n 7 rfl dX11_about_6 rfl ?_
  refine zw_cVi1 10 rfl dX11_about_7 kX11_about_173 (Nat.le_of_ble_eq_true rfl) (by first | assumption | exact zm_o0 | exact zm_o _ _ _ rfl) (m_isPicture hP hp) ?_
  refine zw_if_eqB 22 13 rfl dX11_about_10 (by decide) (fun h_10 => ?_) (fun h_10 => ?_)
  · refine zw_aload_n 23 rfl dX11_about_22 rfl ?_
    refine zw_iconst 24 rfl dX11_about_23 ?_
    refine zw_cVi1 27 rfl dX11_about_24 kX11_about_147 (Nat.le_of_ble_eq_true rfl) (by first | assumption | exact zm_o0 | exact zm_o _ _ _ rfl) m_refused ?_
    exact zw_iret (st := []) dX11_about_27 rfl (mRef h mThrown mScT.rf (by simp only [if_neg h_10, if_true, if_false]) (by omega))
  · refine zw_iload_n 14 rfl dX11_about_13 rfl ?_
    refine zw_iconst 15 rfl dX11_about_14 ?_
    refine zw_iconst 16 rfl dX11_about_15 ?_
    refine zw_cSi3 19 rfl dX11_about_16 kX11_about_106 (Nat.le_of_ble_eq_true rfl) (m_in hwhat (by omega) (by omega)) ?_
    refine zw_if_neB 28 22 rfl dX11_about_19 (by decide) (fun h_19 => ?_) (fun h_19 => ?_)
    · refine zw_iload_n 29 rfl dX11_about_28 rfl ?_
      refine zw_iconst 30 rfl dX11_about_29 ?_
      refine zw_icmp_ge 55 33 rfl dX11_about_30 (by decide) (by omega) (by omega) (fun h_30 => ?_) (fun h_30 => ?_)
      · refine zw_sipush 58 rfl dX11_about_55 rfl ?_
        refine zw_istore_n 59 rfl dX11_about_58 (Nat.le_of_ble_eq_true rfl) rfl ?_
        refine zw_iconst 60 rfl dX11_about_59 ?_
        refine zw_istore 62 rfl dX11_about_60 (Nat.le_of_ble_eq_true rfl) rfl ?_
        refine zw_iconst 63 rfl dX11_about_62 ?_
        refine zw_istore 65 rfl dX11_about_63 (Nat.le_of_ble_eq_true rfl) rfl ?_
        refine zw_iconst 66 rfl dX11_about_65 ?_
        refine zw_istore 68 rfl dX11_about_66 (Nat.le_of_ble_eq_true rfl) rfl ?_
        refine zw_iconst 69 rfl dX11_about_68 ?_
        refine zw_istore 71 rfl dX11_about_69 (Nat.le_of_ble_eq_true rfl) rfl ?_
        exact key h_10 h_19 (by omega)
      · refine zw_aload_n 34 rfl dX11_about_33 rfl ?_
        refine zw_iload_n 35 rfl dX11_about_34 rfl ?_
        refine zw_if_ne 46 38 rfl dX11_about_35 (by decide) (by omega) (fun h_35 => ?_) (fun h_35 => ?_)
        · refine zw_aload_n 47 rfl dX11_about_46 rfl ?_
          refine zw_iload_n 48 rfl dX11_about_47 rfl ?_
          refine zw_cVi1 51 rfl dX11_about_48 kX11_about_176 (Nat.le_of_ble_eq_true rfl) (by first | assumption | exact zm_o0 | exact zm_o _ _ _ rfl) (m_highP (hP.pc h_10)) ?_
          refine zw_cVi1 54 rfl dX11_about_51 kX11_about_157 (Nat.le_of_ble_eq_true rfl) (by first | assumption | exact zm_o0 | exact zm_o _ _ _ rfl) m_good ?_
          exact zw_iret (st := []) dX11_about_54 rfl (mRead h mThrown mScT.rf (by rw [if_pos h_10, if_pos h_19]) (by first | (rw [if_pos h_35]; done) | (rw [if_neg h_35, if_pos (by omega)]; done)) rfl)
        · refine zw_aload_n 39 rfl dX11_about_38 rfl ?_
          refine zw_iload_n 40 rfl dX11_about_39 rfl ?_
          refine zw_cVi1 43 rfl dX11_about_40 kX11_about_170 (Nat.le_of_ble_eq_true rfl) (by first | assumption | exact zm_o0 | exact zm_o _ _ _ rfl) (m_wideP (hP.pc h_10)) ?_
          refine zw_goto 51 dX11_about_43 (by decide) ?_
          refine zw_cVi1 54 rfl dX11_about_51 kX11_about_157 (Nat.le_of_ble_eq_true rfl) (by first | assumption | exact zm_o0 | exact zm_o _ _ _ rfl) m_good ?_
          exact zw_iret (st := []) dX11_about_54 rfl (mRead h mThrown mScT.rf (by rw [if_pos h_10, if_pos h_19]) (by first | (rw [if_pos h_35]; done) | (rw [if_neg h_35, if_pos (by omega)]; done)) rfl)
    · refine zw_aload_n 23 rfl dX11_about_22 rfl ?_
      refine zw_iconst 24 rfl dX11_about_23 ?_
      refine zw_cVi1 27 rfl dX11_about_24 kX11_about_147 (Nat.le_of_ble_eq_true rfl) (by first | assumption | exact zm_o0 | exact zm_o _ _ _ rfl) m_refused ?_
      exact zw_iret (st := []) dX11_about_27 rfl (mRef h mThrown mScT.rf (by simp only [if_pos h_10, if_neg h_19, if_true, if_false]) (by omega))
