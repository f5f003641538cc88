/-! ===== tokens ===== -/
def zsp (t : Nat → Int) (n : Nat) : Nat → Nat → Nat
  | 0, p => p
  | f + 1, p => if p < n ∧ t p = 32 then zsp t n f (p + 1) else p
def zle (t : Nat → Int) (n : Nat) : Nat → Nat → Nat
  | 0, p => p
  | f + 1, p => if p < n ∧ 97 ≤ t p ∧ t p ≤ 122 then zle t n f (p + 1) else p
theorem zsp_r (t : Nat → Int) (n : Nat) : ∀ (f p : Nat), p ≤ n → p ≤ zsp t n f p ∧ zsp t n f p ≤ n
  | 0, p, h => ⟨Nat.le_refl _, h⟩
  | f + 1, p, h => by
    simp only [zsp]
    split
    · have := zsp_r t n f (p + 1) (by omega); omega
    · omega
theorem zle_r (t : Nat → Int) (n : Nat) : ∀ (f p : Nat), p ≤ n → p ≤ zle t n f p ∧ zle t n f p ≤ n
  | 0, p, h => ⟨Nat.le_refl _, h⟩
  | f + 1, p, h => by
    simp only [zle]
    split
    · have := zle_r t n f (p + 1) (by omega); omega
    · omega
/-- a token: where it starts, where it ends, what it is (0 end, 1 word, 2 slash, 3 semicolon, 4 wrong), the letters of a word -/
abbrev zTok : Type := Nat × Nat × Int × Nat
def zTk (t : Nat → Int) (n p : Nat) : zTok := if zsp t n (n - p) p < zle t n (n - zsp t n (n - p) p) (zsp t n (n - p) p) then (zsp t n (n - p) p, zle t n (n - zsp t n (n - p) p) (zsp t n (n - p) p), (if zle t n (n - zsp t n (n - p) p) (zsp t n (n - p) p) - zsp t n (n - p) p ≤ 16 then 1 else 4), zle t n (n - zsp t n (n - p) p) (zsp t n (n - p) p) - zsp t n (n - p) p) else if n ≤ zsp t n (n - p) p then (zsp t n (n - p) p, zsp t n (n - p) p, 0, 0) else (zsp t n (n - p) p, zsp t n (n - p) p + 1, (if t (zsp t n (n - p) p) = 47 then 2 else if t (zsp t n (n - p) p) = 59 then 3 else 4), 0)
def xTk (B : Nat) (σ : zSt) (n : Nat) (k : zTok) (σs : zSt) : Prop := (∀ j, j < 3 → σs (B + 29) j = σ (B + 29) j) ∧ σs (B + 29) 3 = k.2.1 ∧ σs (B + 29) 4 = k.2.2.1 ∧ σs (B + 29) 5 = k.1 ∧ σs (B + 29) 6 = k.2.2.2
theorem c_isLetter {G : zG} {S : zSh} {σ τ : zSt} {v : Int} (hv : -2147483648 ≤ v ∧ v ≤ 2147483647) : zC G M_X8_isLetter [vi v] (S, σ, τ) (zR (some (vi (zb (97 ≤ v ∧ v ≤ 122)))) (S, σ, τ)) := by
  refine zC_of 0 rfl (Nat.le_of_ble_eq_true rfl) ?_
  refine zw_iload_n 1 rfl dX8_isLetter_0 rfl ?_
  refine zw_bipush 3 rfl dX8_isLetter_1 rfl ?_
  refine zw_bipush 5 rfl dX8_isLetter_3 rfl ?_
  refine zw_cSi3 8 rfl dX8_isLetter_5 kX8_isLetter_54 (Nat.le_of_ble_eq_true rfl) (c_within hv (by omega) (by omega)) ?_
  exact zw_zretR dX8_isLetter_8 rfl (zb_01 _) rfl rfl
theorem c_markOf {G : zG} {S : zSh} {σ τ : zSt} {v : Int} (hv : -2147483648 ≤ v ∧ v ≤ 2147483647) : zC G M_X8_markOf [vi v] (S, σ, τ) (zR (some (vi (if v = 47 then 2 else if v = 59 then 3 else 4))) (S, σ, τ)) := by
  refine zC_of 0 rfl (Nat.le_of_ble_eq_true rfl) ?_
  refine zw_iload_n 1 rfl dX8_markOf_0 rfl ?_
  refine zw_bipush 3 rfl dX8_markOf_1 rfl ?_
  refine zw_icmp_ne 10 6 rfl dX8_markOf_3 (by decide) (by omega) (by omega) (fun h_3 => ?_) (fun h_3 => ?_)
  · refine zw_iload_n 11 rfl dX8_markOf_10 rfl ?_
    refine zw_bipush 13 rfl dX8_markOf_11 rfl ?_
    refine zw_icmp_ne 20 16 rfl dX8_markOf_13 (by decide) (by omega) (by omega) (fun h_13 => ?_) (fun h_13 => ?_)
    · refine zw_iconst 21 rfl dX8_markOf_20 ?_
      exact zw_iretR dX8_markOf_21 rfl (by first | rw [if_pos h_3] | rw [if_neg h_3, if_pos h_13] | rw [if_neg h_3, if_neg h_13]) rfl
    · refine zw_iconst 17 rfl dX8_markOf_16 ?_
      refine zw_goto 21 dX8_markOf_17 (by decide) ?_
      exact zw_iretR dX8_markOf_21 rfl (by first | rw [if_pos h_3] | rw [if_neg h_3, if_pos h_13] | rw [if_neg h_3, if_neg h_13]) rfl
  · refine zw_iconst 7 rfl dX8_markOf_6 ?_
    refine zw_goto 21 dX8_markOf_7 (by decide) ?_
    exact zw_iretR dX8_markOf_21 rfl (by first | rw [if_pos h_3] | rw [if_neg h_3, if_pos h_13] | rw [if_neg h_3, if_neg h_13]) rfl
theorem c_nextToken {G : zG} {B n p : Nat} {σ τ : zSt} (h2 : σ (B + 29) 2 = n) (h3 : σ (B + 29) 3 = p) (hp : p ≤ n) (hn : n ≤ 700) (hr : ∀ i, i < n → 0 ≤ σ (B + 30) i ∧ σ (B + 30) i ≤ 255) : zC G M_X8_nextToken [.ref (B + 29)] (zxS B, σ, τ) (fun v w => v = none ∧ ∃ σ' : zSt, w = (zxS B, σ', τ) ∧ (∀ b, b ≠ B + 29 → σ' b = σ b) ∧ xTk B σ n (zTk (σ (B + 30)) n p) σ') := by
  refine zC_of 0 rfl (Nat.le_of_ble_eq_true rfl) ?_
  have hs := zsp_r (σ (B + 30)) n (n - p) p hp
  unfold zTk
  generalize hS : zsp (σ (B + 30)) n (n - p) p = s at *
  have he := zle_r (σ (B + 30)) n (n - s) s hs.2
  generalize hE : zle (σ (B + 30)) n (n - s) s = e at *
  generalize hK : (if s < e then (s, e, (if e - s ≤ 16 then 1 else 4), e - s) else if n ≤ s then (s, s, 0, 0) else (s, s + 1, (if σ (B + 30) s = 47 then 2 else if σ (B + 30) s = 59 then 3 else 4), 0) : zTok) = K
  -- behind the word
  have L85 : ∀ σs : zSt, (∀ b, b ≠ B + 29 → σs b = σ b) → (∀ j, j < 3 → σs (B + 29) j = σ (B + 29) j) → σs (B + 29) 3 = e → σs (B + 29) 5 = s → zW G M_X8_nextToken (fun v w => v = none ∧ ∃ σ' : zSt, w = (zxS B, σ', τ) ∧ (∀ b, b ≠ B + 29 → σ' b = σ b) ∧ xTk B σ n K σ') 85 [some (.ref (B + 29))] [] (zxS B, σs, τ) := by
    intro σs f1 f2 f3 f5
    have f22 := f2 2 (by omega)
    have f30 := f1 (B + 30) (by omega)
    have hrs := hr s
    refine zw_aload_n 86 rfl dX8_nextToken_85 rfl ?_
    refine zw_aload_n 87 rfl dX8_nextToken_86 rfl ?_
    refine zw_geti 90 rfl dX8_nextToken_87 fl_X8_31 (by first | assumption | exact zx_o0 | exact zx_o _ _ _ rfl) ?_
    rw [f3]
    refine zw_aload_n 91 rfl dX8_nextToken_90 rfl ?_
    refine zw_geti 94 rfl dX8_nextToken_91 fl_X8_34 (by first | assumption | exact zx_o0 | exact zx_o _ _ _ rfl) ?_
    rw [f5]
    refine zw_isub 95 rfl dX8_nextToken_94 ?_
    refine zw_puti 98 rfl dX8_nextToken_95 fp_X8_41 (by first | assumption | exact zx_o0 | exact zx_o _ _ _ rfl) ?_
    refine zw_aload_n 99 rfl dX8_nextToken_98 rfl ?_
    refine zw_geti 102 rfl dX8_nextToken_99 fl_X8_41 (by first | assumption | exact zx_o0 | exact zx_o _ _ _ rfl) ?_
    rw [zu_eq]
    refine zw_if_le 126 105 rfl dX8_nextToken_102 (by decide) (by omega) (fun h_102 => ?_) (fun h_102 => ?_)
    · refine zw_aload_n 127 rfl dX8_nextToken_126 rfl ?_
      refine zw_geti 130 rfl dX8_nextToken_127 fl_X8_31 (by first | assumption | exact zx_o0 | exact zx_o _ _ _ rfl) ?_
      rw [zu_k _ _ (by omega), f3]
      refine zw_aload_n 131 rfl dX8_nextToken_130 rfl ?_
      refine zw_geti 134 rfl dX8_nextToken_131 fl_X8_28 (by first | assumption | exact zx_o0 | exact zx_o _ _ _ rfl) ?_
      rw [zu_k _ _ (by omega), f22, h2]
      refine zw_icmp_lt 145 137 rfl dX8_nextToken_134 (by decide) (by omega) (by omega) (fun h_134 => ?_) (fun h_134 => ?_)
      · refine zw_aload_n 146 rfl dX8_nextToken_145 rfl ?_
        refine zw_aload_n 147 rfl dX8_nextToken_146 rfl ?_
        refine zw_getr 150 rfl dX8_nextToken_147 fl_X8_9 (by first | assumption | exact zx_o0 | exact zx_o _ _ _ rfl) (by first | assumption | exact zx_f0 _ _ rfl | exact zx_f _ _ _ rfl) ?_
        refine zw_aload_n 151 rfl dX8_nextToken_150 rfl ?_
        refine zw_geti 154 rfl dX8_nextToken_151 fl_X8_31 (by first | assumption | exact zx_o0 | exact zx_o _ _ _ rfl) ?_
        rw [zu_k _ _ (by omega), f3]
        refine zw_iald 155 rfl dX8_nextToken_154 (by first | assumption | exact zx_o0 | exact zx_o _ _ _ rfl) (by omega) (by omega) ?_
        rw [zu_row _ _ (by omega), f30, show ((e : Nat) : Int).toNat = s by omega]
        refine zw_cSi1 158 rfl dX8_nextToken_155 kX8_nextToken_47 (Nat.le_of_ble_eq_true rfl) (c_markOf (by omega)) ?_
        refine zw_puti 161 rfl dX8_nextToken_158 fp_X8_44 (by first | assumption | exact zx_o0 | exact zx_o _ _ _ rfl) ?_
        refine zw_aload_n 162 rfl dX8_nextToken_161 rfl ?_
        refine zw_dup 163 rfl dX8_nextToken_162 rfl ?_
        refine zw_geti 166 rfl dX8_nextToken_163 fl_X8_31 (by first | assumption | exact zx_o0 | exact zx_o _ _ _ rfl) ?_
        rw [zu_k _ _ (by omega), zu_k _ _ (by omega), f3]
        refine zw_iconst 167 rfl dX8_nextToken_166 ?_
        refine zw_iadd 168 rfl dX8_nextToken_167 ?_
        refine zw_puti 171 rfl dX8_nextToken_168 fp_X8_31 (by first | assumption | exact zx_o0 | exact zx_o _ _ _ rfl) ?_
        have hKe : K = (s, s + 1, (if σ (B + 30) s = 47 then 2 else if σ (B + 30) s = 59 then 3 else 4), 0) := by rw [← hK]; rw [if_neg (by omega), if_neg (by omega)]
        refine zw_vret (st := []) dX8_nextToken_171 rfl ⟨rfl, _, rfl, fun b hb => by simp [zu_row, hb, f1 b hb], ?_⟩
        rw [hKe]
        exact ⟨fun j hj => by simp only [zu_k _ _ (show j ≠ 6 by omega), zu_k _ _ (show j ≠ 4 by omega), zu_k _ _ (show j ≠ 3 by omega)]; exact f2 j hj, by simp [zu, f3]; try omega, by simp [zu], by simp [zu, f5], by simp [zu]; try omega⟩
      · refine zw_aload_n 138 rfl dX8_nextToken_137 rfl ?_
        refine zw_iconst 139 rfl dX8_nextToken_138 ?_
        refine zw_puti 142 rfl dX8_nextToken_139 fp_X8_44 (by first | assumption | exact zx_o0 | exact zx_o _ _ _ rfl) ?_
        refine zw_goto 171 dX8_nextToken_142 (by decide) ?_
        have hKe : K = (s, s, 0, 0) := by rw [← hK]; rw [if_neg (by omega), if_pos (by omega)]
        refine zw_vret (st := []) dX8_nextToken_171 rfl ⟨rfl, _, rfl, fun b hb => by simp [zu_row, hb, f1 b hb], ?_⟩
        rw [hKe]
        exact ⟨fun j hj => by simp only [zu_k _ _ (show j ≠ 6 by omega), zu_k _ _ (show j ≠ 4 by omega), zu_k _ _ (show j ≠ 3 by omega)]; exact f2 j hj, by simp [zu, f3]; try omega, by simp [zu], by simp [zu, f5], by simp [zu]; try omega⟩
    · refine zw_aload_n 106 rfl dX8_nextToken_105 rfl ?_
      refine zw_aload_n 107 rfl dX8_nextToken_106 rfl ?_
      refine zw_geti 110 rfl dX8_nextToken_107 fl_X8_41 (by first | assumption | exact zx_o0 | exact zx_o _ _ _ rfl) ?_
      rw [zu_eq]
      refine zw_bipush 112 rfl dX8_nextToken_110 rfl ?_
      refine zw_icmp_gt 119 115 rfl dX8_nextToken_112 (by decide) (by omega) (by omega) (fun h_112 => ?_) (fun h_112 => ?_)
      · refine zw_iconst 120 rfl dX8_nextToken_119 ?_
        refine zw_puti 123 rfl dX8_nextToken_120 fp_X8_44 (by first | assumption | exact zx_o0 | exact zx_o _ _ _ rfl) ?_
        refine zw_goto 171 dX8_nextToken_123 (by decide) ?_
        have hKe : K = (s, e, 4, e - s) := by rw [← hK]; rw [if_pos (by omega), if_neg (by omega)]
        refine zw_vret (st := []) dX8_nextToken_171 rfl ⟨rfl, _, rfl, fun b hb => by simp [zu_row, hb, f1 b hb], ?_⟩
        rw [hKe]
        exact ⟨fun j hj => by simp only [zu_k _ _ (show j ≠ 6 by omega), zu_k _ _ (show j ≠ 4 by omega), zu_k _ _ (show j ≠ 3 by omega)]; exact f2 j hj, by simp [zu, f3]; try omega, by simp [zu], by simp [zu, f5], by simp [zu]; try omega⟩
      · refine zw_iconst 116 rfl dX8_nextToken_115 ?_
        refine zw_goto 120 dX8_nextToken_116 (by decide) ?_
        refine zw_puti 123 rfl dX8_nextToken_120 fp_X8_44 (by first | assumption | exact zx_o0 | exact zx_o _ _ _ rfl) ?_
        refine zw_goto 171 dX8_nextToken_123 (by decide) ?_
        have hKe : K = (s, e, 1, e - s) := by rw [← hK]; rw [if_pos (by omega), if_pos (by omega)]
        refine zw_vret (st := []) dX8_nextToken_171 rfl ⟨rfl, _, rfl, fun b hb => by simp [zu_row, hb, f1 b hb], ?_⟩
        rw [hKe]
        exact ⟨fun j hj => by simp only [zu_k _ _ (show j ≠ 6 by omega), zu_k _ _ (show j ≠ 4 by omega), zu_k _ _ (show j ≠ 3 by omega)]; exact f2 j hj, by simp [zu, f3]; try omega, by simp [zu], by simp [zu, f5], by simp [zu]; try omega⟩
  have L46 : ∀ (f q : Nat) (σs : zSt), q ≤ n → n - q ≤ f → zle (σ (B + 30)) n f q = e → (∀ b, b ≠ B + 29 → σs b = σ b) → (∀ j, j < 3 → σs (B + 29) j = σ (B + 29) j) → σs (B + 29) 3 = q → σs (B + 29) 5 = s → zW G M_X8_nextToken (fun v w => v = none ∧ ∃ σ' : zSt, w = (zxS B, σ', τ) ∧ (∀ b, b ≠ B + 29 → σ' b = σ b) ∧ xTk B σ n K σ') 46 [some (.ref (B + 29))] [] (zxS B, σs, τ) := by
    intro f
    induction f with
    | zero =>
      intro q σs hq hf hz f1 f2 f3 f5
      have f22 := f2 2 (by omega)
      rw [zle] at hz
      refine zw_aload_n 47 rfl dX8_nextToken_46 rfl ?_
      refine zw_geti 50 rfl dX8_nextToken_47 fl_X8_31 (by first | assumption | exact zx_o0 | exact zx_o _ _ _ rfl) ?_
      rw [f3]
      refine zw_aload_n 51 rfl dX8_nextToken_50 rfl ?_
      refine zw_geti 54 rfl dX8_nextToken_51 fl_X8_28 (by first | assumption | exact zx_o0 | exact zx_o _ _ _ rfl) ?_
      rw [f22, h2]
      refine zw_icmp_ge 85 57 rfl dX8_nextToken_54 (by decide) (by omega) (by omega) (fun h_54 => ?_) (fun h_54 => ?_)
      · exact L85 σs f1 f2 (by rw [f3, hz]) f5
      · omega
    | succ f ih =>
      intro q σs hq hf hz f1 f2 f3 f5
      have f22 := f2 2 (by omega)
      have f30 := f1 (B + 30) (by omega)
      have hrs := hr q
      rw [zle] at hz
      refine zw_aload_n 47 rfl dX8_nextToken_46 rfl ?_
      refine zw_geti 50 rfl dX8_nextToken_47 fl_X8_31 (by first | assumption | exact zx_o0 | exact zx_o _ _ _ rfl) ?_
      rw [f3]
      refine zw_aload_n 51 rfl dX8_nextToken_50 rfl ?_
      refine zw_geti 54 rfl dX8_nextToken_51 fl_X8_28 (by first | assumption | exact zx_o0 | exact zx_o _ _ _ rfl) ?_
      rw [f22, h2]
      refine zw_icmp_ge 85 57 rfl dX8_nextToken_54 (by decide) (by omega) (by omega) (fun h_54 => ?_) (fun h_54 => ?_)
      · first | exact L85 σs f1 f2 (by rw [f3, ← hz, if_neg (fun w => by omega)]) f5 | exact L85 σs f1 f2 (by rw [f3, ← hz, if_neg (fun w => h_69 w.2)]) f5
      · refine zw_aload_n 58 rfl dX8_nextToken_57 rfl ?_
        refine zw_getr 61 rfl dX8_nextToken_58 fl_X8_9 (by first | assumption | exact zx_o0 | exact zx_o _ _ _ rfl) (by first | assumption | exact zx_f0 _ _ rfl | exact zx_f _ _ _ rfl) ?_
        refine zw_aload_n 62 rfl dX8_nextToken_61 rfl ?_
        refine zw_geti 65 rfl dX8_nextToken_62 fl_X8_31 (by first | assumption | exact zx_o0 | exact zx_o _ _ _ rfl) ?_
        rw [f3]
        refine zw_iald 66 rfl dX8_nextToken_65 (by first | assumption | exact zx_o0 | exact zx_o _ _ _ rfl) (by omega) (by omega) ?_
        rw [f30, Int.toNat_natCast]
        refine zw_cSi1 69 rfl dX8_nextToken_66 kX8_nextToken_37 (Nat.le_of_ble_eq_true rfl) (c_isLetter (by omega)) ?_
        refine zw_if_eqB 85 72 rfl dX8_nextToken_69 (by decide) (fun h_69 => ?_) (fun h_69 => ?_)
        · first | exact L85 σs f1 f2 (by rw [f3, ← hz, if_neg (fun w => by omega)]) f5 | exact L85 σs f1 f2 (by rw [f3, ← hz, if_neg (fun w => h_69 w.2)]) f5
        · refine zw_aload_n 73 rfl dX8_nextToken_72 rfl ?_
          refine zw_dup 74 rfl dX8_nextToken_73 rfl ?_
          refine zw_geti 77 rfl dX8_nextToken_74 fl_X8_31 (by first | assumption | exact zx_o0 | exact zx_o _ _ _ rfl) ?_
          rw [f3]
          refine zw_iconst 78 rfl dX8_nextToken_77 ?_
          refine zw_iadd 79 rfl dX8_nextToken_78 ?_
          refine zw_puti 82 rfl dX8_nextToken_79 fp_X8_31 (by first | assumption | exact zx_o0 | exact zx_o _ _ _ rfl) ?_
          refine zw_goto 46 dX8_nextToken_82 (by decide) ?_
          rw [if_pos ⟨by omega, h_69⟩] at hz
          exact ih (q + 1) _ (by omega) (by omega) hz (fun b hb => by rw [zu_row _ _ hb]; exact f1 b hb) (fun j hj => by rw [zu_k _ _ (by omega)]; exact f2 j hj) (by rw [zu_eq]; simp) (by rw [zu_k _ _ (by omega)]; exact f5)
  have L0 : ∀ (f q : Nat) (σs : zSt), q ≤ n → n - q ≤ f → zsp (σ (B + 30)) n f q = s → (∀ b, b ≠ B + 29 → σs b = σ b) → (∀ j, j < 3 → σs (B + 29) j = σ (B + 29) j) → σs (B + 29) 3 = q → zW G M_X8_nextToken (fun v w => v = none ∧ ∃ σ' : zSt, w = (zxS B, σ', τ) ∧ (∀ b, b ≠ B + 29 → σ' b = σ b) ∧ xTk B σ n K σ') 0 [some (.ref (B + 29))] [] (zxS B, σs, τ) := by
    have L38 : ∀ (q : Nat) (σs : zSt), q = s → (∀ b, b ≠ B + 29 → σs b = σ b) → (∀ j, j < 3 → σs (B + 29) j = σ (B + 29) j) → σs (B + 29) 3 = q → zW G M_X8_nextToken (fun v w => v = none ∧ ∃ σ' : zSt, w = (zxS B, σ', τ) ∧ (∀ b, b ≠ B + 29 → σ' b = σ b) ∧ xTk B σ n K σ') 38 [some (.ref (B + 29))] [] (zxS B, σs, τ) := by
      intro q σs hq f1 f2 f3
      subst hq
      refine zw_aload_n 39 rfl dX8_nextToken_38 rfl ?_
      refine zw_aload_n 40 rfl dX8_nextToken_39 rfl ?_
      refine zw_geti 43 rfl dX8_nextToken_40 fl_X8_31 (by first | assumption | exact zx_o0 | exact zx_o _ _ _ rfl) ?_
      rw [f3]
      refine zw_puti 46 rfl dX8_nextToken_43 fp_X8_34 (by first | assumption | exact zx_o0 | exact zx_o _ _ _ rfl) ?_
      exact L46 (n - q) q _ hs.2 (Nat.le_refl _) hE (fun b hb => by rw [zu_row _ _ hb]; exact f1 b hb) (fun j hj => by rw [zu_k _ _ (by omega)]; exact f2 j hj) (by rw [zu_k _ _ (by omega)]; exact f3) (zu_eq _ _ _ _)
    intro f
    induction f with
    | zero =>
      intro q σs hq hf hz f1 f2 f3
      have f22 := f2 2 (by omega)
      rw [zsp] at hz
      refine zw_aload_n 1 rfl dX8_nextToken_0 rfl ?_
      refine zw_geti 4 rfl dX8_nextToken_1 fl_X8_31 (by first | assumption | exact zx_o0 | exact zx_o _ _ _ rfl) ?_
      rw [f3]
      refine zw_aload_n 5 rfl dX8_nextToken_4 rfl ?_
      refine zw_geti 8 rfl dX8_nextToken_5 fl_X8_28 (by first | assumption | exact zx_o0 | exact zx_o _ _ _ rfl) ?_
      rw [f22, h2]
      refine zw_icmp_ge 38 11 rfl dX8_nextToken_8 (by decide) (by omega) (by omega) (fun h_8 => ?_) (fun h_8 => ?_)
      · exact L38 q σs hz f1 f2 f3
      · omega
    | succ f ih =>
      intro q σs hq hf hz f1 f2 f3
      have f22 := f2 2 (by omega)
      have f30 := f1 (B + 30) (by omega)
      have hrs := hr q
      rw [zsp] at hz
      refine zw_aload_n 1 rfl dX8_nextToken_0 rfl ?_
      refine zw_geti 4 rfl dX8_nextToken_1 fl_X8_31 (by first | assumption | exact zx_o0 | exact zx_o _ _ _ rfl) ?_
      rw [f3]
      refine zw_aload_n 5 rfl dX8_nextToken_4 rfl ?_
      refine zw_geti 8 rfl dX8_nextToken_5 fl_X8_28 (by first | assumption | exact zx_o0 | exact zx_o _ _ _ rfl) ?_
      rw [f22, h2]
      refine zw_icmp_ge 38 11 rfl dX8_nextToken_8 (by decide) (by omega) (by omega) (fun h_8 => ?_) (fun h_8 => ?_)
      · first | exact L38 q σs (by rw [← hz, if_neg (fun w => by omega)]) f1 f2 f3 | exact L38 q σs (by rw [← hz, if_neg (fun w => h_22 w.2)]) f1 f2 f3
      · refine zw_aload_n 12 rfl dX8_nextToken_11 rfl ?_
        refine zw_getr 15 rfl dX8_nextToken_12 fl_X8_9 (by first | assumption | exact zx_o0 | exact zx_o _ _ _ rfl) (by first | assumption | exact zx_f0 _ _ rfl | exact zx_f _ _ _ rfl) ?_
        refine zw_aload_n 16 rfl dX8_nextToken_15 rfl ?_
        refine zw_geti 19 rfl dX8_nextToken_16 fl_X8_31 (by first | assumption | exact zx_o0 | exact zx_o _ _ _ rfl) ?_
        rw [f3]
        refine zw_iald 20 rfl dX8_nextToken_19 (by first | assumption | exact zx_o0 | exact zx_o _ _ _ rfl) (by omega) (by omega) ?_
        rw [f30, Int.toNat_natCast]
        refine zw_bipush 22 rfl dX8_nextToken_20 rfl ?_
        refine zw_icmp_ne 38 25 rfl dX8_nextToken_22 (by decide) (by omega) (by omega) (fun h_22 => ?_) (fun h_22 => ?_)
        · first | exact L38 q σs (by rw [← hz, if_neg (fun w => by omega)]) f1 f2 f3 | exact L38 q σs (by rw [← hz, if_neg (fun w => h_22 w.2)]) f1 f2 f3
        · refine zw_aload_n 26 rfl dX8_nextToken_25 rfl ?_
          refine zw_dup 27 rfl dX8_nextToken_26 rfl ?_
          refine zw_geti 30 rfl dX8_nextToken_27 fl_X8_31 (by first | assumption | exact zx_o0 | exact zx_o _ _ _ rfl) ?_
          rw [f3]
          refine zw_iconst 31 rfl dX8_nextToken_30 ?_
          refine zw_iadd 32 rfl dX8_nextToken_31 ?_
          refine zw_puti 35 rfl dX8_nextToken_32 fp_X8_31 (by first | assumption | exact zx_o0 | exact zx_o _ _ _ rfl) ?_
          refine zw_goto 0 dX8_nextToken_35 (by decide) ?_
          rw [if_pos ⟨by omega, h_22⟩] at hz
          exact ih (q + 1) _ (by omega) (by omega) hz (fun b hb => by rw [zu_row _ _ hb]; exact f1 b hb) (fun j hj => by rw [zu_k _ _ (by omega)]; exact f2 j hj) (by rw [zu_eq]; simp)
  exact L0 (n - p) p σ hp (by omega) hS (fun _ _ => rfl) (fun _ _ => rfl) h3
