abbrev zR (r : Option Value) (w : zWd) : Option Value → zWd → Prop := fun r' w' => r' = r ∧ w' = w
section ZR
variable {G : zG} {M : zMt} {pc : Nat} {lv : List (Option Value)} {w w' : zWd}
theorem zw_iretR {a b : Int} (hd : decode (zm_cc M) pc = .ok (.ireturn, 1)) (hr : zm_ret M = some .int) (he : a = b) (hw : w = w') : zW G M (zR (some (vi b)) w') pc lv [vi a] w := zw_iret (st := []) hd hr ⟨by rw [he], hw⟩
theorem zw_zretR {a b : Int} (hd : decode (zm_cc M) pc = .ok (.ireturn, 1)) (hr : zm_ret M = some .boolean) (hn : a = 0 ∨ a = 1) (he : a = b) (hw : w = w') : zW G M (zR (some (vi b)) w') pc lv [vi a] w := zw_zret (st := []) hd hr hn ⟨by rw [he], hw⟩
theorem zw_lretR {a b : Int} (hd : decode (zm_cc M) pc = .ok (.lreturn, 1)) (hr : zm_ret M = some .long) (he : a = b) (hw : w = w') : zW G M (zR (some (vl b)) w') pc lv [vl a] w := zw_lret (st := []) hd hr ⟨by rw [he], hw⟩
theorem zw_vretR (hd : decode (zm_cc M) pc = .ok (.return_, 1)) (hr : zm_ret M = none) (hw : w = w') : zW G M (zR none w') pc lv [] w := zw_vret (st := []) hd hr ⟨rfl, hw⟩
end ZR
theorem zC.mono {G : zG} {M : zMt} {av : List Value} {w : zWd} {Q Q' : Option Value → zWd → Prop} (h : zC G M av w Q) (hq : ∀ r w', Q r w' → Q' r w') : zC G M av w Q' := by
  intro l p e ha hc hk s m args below hf happ hP hK
  obtain ⟨t, o, h1, h2, h3, ⟨⟨r, w', e1, e2, e3⟩, hF⟩, hL⟩ := h l p e ha hc hk s m args below hf happ hP hK
  exact ⟨t, o, h1, h2, h3, ⟨⟨r, w', e1, hq r w' e2, e3⟩, hF⟩, hL⟩
def zkV (M : zMt) (idx : Nat) (M' : zMt) (n ci : Nat) : Prop := zm_V M' ∧ zml (zm_y M).cls idx M' ∧ (zm_fr M' + 1 ≤ zm_fr M ∧ 8 + (zm_nL M' + 11) + zm_lw M' ≤ zm_lw M) ∧ n = zm_n M' ∧ ci < 12 ∧ ∃ (T : u_T) (N : Nat), vwCl[ci]? = some ((zm_y M').cls, T, N)
def zkS (M : zMt) (idx : Nat) (M' : zMt) (n : Nat) : Prop := zm_S M' ∧ zml (zm_y M).cls idx M' ∧ (zm_fr M' + 1 ≤ zm_fr M ∧ 8 + (zm_nL M' + 11) + zm_lw M' ≤ zm_lw M) ∧ n = zm_n M'
section ZK
variable {G : zG} {M M' : zMt} {Q : Option Value → zWd → Prop} {pc : Nat} {lv : List (Option Value)} {rest : List Value} {S : zSh} {σ τ : zSt} {w' : zWd} {idx b ci n : Nat}
theorem zw_cVi0 {v : Value} (q : Nat) (hq : pc + 3 = q) (hd : decode (zm_cc M) pc = .ok (.invokevirtual idx, 3)) (hk : zkV M idx M' 0 ci) (hw : (rest.map fun v => v.category).sum ≤ 8) (ho : zo S b ci n) (hC : zC G M' [.ref b] (S, σ, τ) (zR (some v) w')) (kk : zW G M Q q lv (v :: rest) w') : zW G M Q pc lv (.ref b :: rest) (S, σ, τ) := by
  subst hq
  obtain ⟨h1, h2, h3, h4, h5, T, N, h6⟩ := hk
  exact zw_callV (C := "") [] hd h1 h2 h3 h4 rfl hw h5 h6 ho hC (fun r w1 h => by obtain ⟨rfl, rfl⟩ := h; exact kk)
theorem zw_cVv0 (q : Nat) (hq : pc + 3 = q) (hd : decode (zm_cc M) pc = .ok (.invokevirtual idx, 3)) (hk : zkV M idx M' 0 ci) (hw : (rest.map fun v => v.category).sum ≤ 8) (ho : zo S b ci n) (hC : zC G M' [.ref b] (S, σ, τ) (zR none w')) (kk : zW G M Q q lv rest w') : zW G M Q pc lv (.ref b :: rest) (S, σ, τ) := by
  subst hq
  obtain ⟨h1, h2, h3, h4, h5, T, N, h6⟩ := hk
  exact zw_callV (C := "") [] hd h1 h2 h3 h4 rfl hw h5 h6 ho hC (fun r w1 h => by obtain ⟨rfl, rfl⟩ := h; exact kk)
theorem zw_cVr0 {Q' : Option Value → zWd → Prop} (q : Nat) (hq : pc + 3 = q) (hd : decode (zm_cc M) pc = .ok (.invokevirtual idx, 3)) (hk : zkV M idx M' 0 ci) (hw : (rest.map fun v => v.category).sum ≤ 8) (ho : zo S b ci n) (hC : zC G M' [.ref b] (S, σ, τ) Q') (kk : ∀ r w1, Q' r w1 → zW G M Q q lv (r.toList ++ rest) w1) : zW G M Q pc lv (.ref b :: rest) (S, σ, τ) := by
  subst hq
  obtain ⟨h1, h2, h3, h4, h5, T, N, h6⟩ := hk
  exact zw_callV (C := "") [] hd h1 h2 h3 h4 rfl hw h5 h6 ho hC kk
theorem zw_cSi0 {v : Value} (q : Nat) (hq : pc + 3 = q) (hd : decode (zm_cc M) pc = .ok (.invokestatic idx, 3)) (hk : zkS M idx M' 0) (hw : (rest.map fun v => v.category).sum ≤ 8) (hC : zC G M' [] (S, σ, τ) (zR (some v) w')) (kk : zW G M Q q lv (v :: rest) w') : zW G M Q pc lv (rest) (S, σ, τ) := by
  subst hq
  obtain ⟨h1, h2, h3, h4⟩ := hk
  exact zw_callS [] hd h1 h2 h3 h4 rfl hw hC (fun r w1 h => by obtain ⟨rfl, rfl⟩ := h; exact kk)
theorem zw_cSv0 (q : Nat) (hq : pc + 3 = q) (hd : decode (zm_cc M) pc = .ok (.invokestatic idx, 3)) (hk : zkS M idx M' 0) (hw : (rest.map fun v => v.category).sum ≤ 8) (hC : zC G M' [] (S, σ, τ) (zR none w')) (kk : zW G M Q q lv rest w') : zW G M Q pc lv (rest) (S, σ, τ) := by
  subst hq
  obtain ⟨h1, h2, h3, h4⟩ := hk
  exact zw_callS [] hd h1 h2 h3 h4 rfl hw hC (fun r w1 h => by obtain ⟨rfl, rfl⟩ := h; exact kk)
theorem zw_cSr0 {Q' : Option Value → zWd → Prop} (q : Nat) (hq : pc + 3 = q) (hd : decode (zm_cc M) pc = .ok (.invokestatic idx, 3)) (hk : zkS M idx M' 0) (hw : (rest.map fun v => v.category).sum ≤ 8) (hC : zC G M' [] (S, σ, τ) Q') (kk : ∀ r w1, Q' r w1 → zW G M Q q lv (r.toList ++ rest) w1) : zW G M Q pc lv (rest) (S, σ, τ) := by
  subst hq
  obtain ⟨h1, h2, h3, h4⟩ := hk
  exact zw_callS [] hd h1 h2 h3 h4 rfl hw hC kk
theorem zw_cVi1 {a1 : Value} {v : Value} (q : Nat) (hq : pc + 3 = q) (hd : decode (zm_cc M) pc = .ok (.invokevirtual idx, 3)) (hk : zkV M idx M' 1 ci) (hw : (rest.map fun v => v.category).sum ≤ 8) (ho : zo S b ci n) (hC : zC G M' [.ref b, a1] (S, σ, τ) (zR (some v) w')) (kk : zW G M Q q lv (v :: rest) w') : zW G M Q pc lv (a1 :: .ref b :: rest) (S, σ, τ) := by
  subst hq
  obtain ⟨h1, h2, h3, h4, h5, T, N, h6⟩ := hk
  exact zw_callV (C := "") [a1] hd h1 h2 h3 h4 rfl hw h5 h6 ho hC (fun r w1 h => by obtain ⟨rfl, rfl⟩ := h; exact kk)
theorem zw_cVv1 {a1 : Value} (q : Nat) (hq : pc + 3 = q) (hd : decode (zm_cc M) pc = .ok (.invokevirtual idx, 3)) (hk : zkV M idx M' 1 ci) (hw : (rest.map fun v => v.category).sum ≤ 8) (ho : zo S b ci n) (hC : zC G M' [.ref b, a1] (S, σ, τ) (zR none w')) (kk : zW G M Q q lv rest w') : zW G M Q pc lv (a1 :: .ref b :: rest) (S, σ, τ) := by
  subst hq
  obtain ⟨h1, h2, h3, h4, h5, T, N, h6⟩ := hk
  exact zw_callV (C := "") [a1] hd h1 h2 h3 h4 rfl hw h5 h6 ho hC (fun r w1 h => by obtain ⟨rfl, rfl⟩ := h; exact kk)
theorem zw_cVr1 {a1 : Value} {Q' : Option Value → zWd → Prop} (q : Nat) (hq : pc + 3 = q) (hd : decode (zm_cc M) pc = .ok (.invokevirtual idx, 3)) (hk : zkV M idx M' 1 ci) (hw : (rest.map fun v => v.category).sum ≤ 8) (ho : zo S b ci n) (hC : zC G M' [.ref b, a1] (S, σ, τ) Q') (kk : ∀ r w1, Q' r w1 → zW G M Q q lv (r.toList ++ rest) w1) : zW G M Q pc lv (a1 :: .ref b :: rest) (S, σ, τ) := by
  subst hq
  obtain ⟨h1, h2, h3, h4, h5, T, N, h6⟩ := hk
  exact zw_callV (C := "") [a1] hd h1 h2 h3 h4 rfl hw h5 h6 ho hC kk
theorem zw_cSi1 {a1 : Value} {v : Value} (q : Nat) (hq : pc + 3 = q) (hd : decode (zm_cc M) pc = .ok (.invokestatic idx, 3)) (hk : zkS M idx M' 1) (hw : (rest.map fun v => v.category).sum ≤ 8) (hC : zC G M' [a1] (S, σ, τ) (zR (some v) w')) (kk : zW G M Q q lv (v :: rest) w') : zW G M Q pc lv (a1 :: rest) (S, σ, τ) := by
  subst hq
  obtain ⟨h1, h2, h3, h4⟩ := hk
  exact zw_callS [a1] hd h1 h2 h3 h4 rfl hw hC (fun r w1 h => by obtain ⟨rfl, rfl⟩ := h; exact kk)
theorem zw_cSv1 {a1 : Value} (q : Nat) (hq : pc + 3 = q) (hd : decode (zm_cc M) pc = .ok (.invokestatic idx, 3)) (hk : zkS M idx M' 1) (hw : (rest.map fun v => v.category).sum ≤ 8) (hC : zC G M' [a1] (S, σ, τ) (zR none w')) (kk : zW G M Q q lv rest w') : zW G M Q pc lv (a1 :: rest) (S, σ, τ) := by
  subst hq
  obtain ⟨h1, h2, h3, h4⟩ := hk
  exact zw_callS [a1] hd h1 h2 h3 h4 rfl hw hC (fun r w1 h => by obtain ⟨rfl, rfl⟩ := h; exact kk)
theorem zw_cSr1 {a1 : Value} {Q' : Option Value → zWd → Prop} (q : Nat) (hq : pc + 3 = q) (hd : decode (zm_cc M) pc = .ok (.invokestatic idx, 3)) (hk : zkS M idx M' 1) (hw : (rest.map fun v => v.category).sum ≤ 8) (hC : zC G M' [a1] (S, σ, τ) Q') (kk : ∀ r w1, Q' r w1 → zW G M Q q lv (r.toList ++ rest) w1) : zW G M Q pc lv (a1 :: rest) (S, σ, τ) := by
  subst hq
  obtain ⟨h1, h2, h3, h4⟩ := hk
  exact zw_callS [a1] hd h1 h2 h3 h4 rfl hw hC kk
theorem zw_cVi2 {a1 a2 : Value} {v : Value} (q : Nat) (hq : pc + 3 = q) (hd : decode (zm_cc M) pc = .ok (.invokevirtual idx, 3)) (hk : zkV M idx M' 2 ci) (hw : (rest.map fun v => v.category).sum ≤ 8) (ho : zo S b ci n) (hC : zC G M' [.ref b, a1, a2] (S, σ, τ) (zR (some v) w')) (kk : zW G M Q q lv (v :: rest) w') : zW G M Q pc lv (a2 :: a1 :: .ref b :: rest) (S, σ, τ) := by
  subst hq
  obtain ⟨h1, h2, h3, h4, h5, T, N, h6⟩ := hk
  exact zw_callV (C := "") [a1, a2] hd h1 h2 h3 h4 rfl hw h5 h6 ho hC (fun r w1 h => by obtain ⟨rfl, rfl⟩ := h; exact kk)
theorem zw_cVv2 {a1 a2 : Value} (q : Nat) (hq : pc + 3 = q) (hd : decode (zm_cc M) pc = .ok (.invokevirtual idx, 3)) (hk : zkV M idx M' 2 ci) (hw : (rest.map fun v => v.category).sum ≤ 8) (ho : zo S b ci n) (hC : zC G M' [.ref b, a1, a2] (S, σ, τ) (zR none w')) (kk : zW G M Q q lv rest w') : zW G M Q pc lv (a2 :: a1 :: .ref b :: rest) (S, σ, τ) := by
  subst hq
  obtain ⟨h1, h2, h3, h4, h5, T, N, h6⟩ := hk
  exact zw_callV (C := "") [a1, a2] hd h1 h2 h3 h4 rfl hw h5 h6 ho hC (fun r w1 h => by obtain ⟨rfl, rfl⟩ := h; exact kk)
theorem zw_cVr2 {a1 a2 : Value} {Q' : Option Value → zWd → Prop} (q : Nat) (hq : pc + 3 = q) (hd : decode (zm_cc M) pc = .ok (.invokevirtual idx, 3)) (hk : zkV M idx M' 2 ci) (hw : (rest.map fun v => v.category).sum ≤ 8) (ho : zo S b ci n) (hC : zC G M' [.ref b, a1, a2] (S, σ, τ) Q') (kk : ∀ r w1, Q' r w1 → zW G M Q q lv (r.toList ++ rest) w1) : zW G M Q pc lv (a2 :: a1 :: .ref b :: rest) (S, σ, τ) := by
  subst hq
  obtain ⟨h1, h2, h3, h4, h5, T, N, h6⟩ := hk
  exact zw_callV (C := "") [a1, a2] hd h1 h2 h3 h4 rfl hw h5 h6 ho hC kk
theorem zw_cSi2 {a1 a2 : Value} {v : Value} (q : Nat) (hq : pc + 3 = q) (hd : decode (zm_cc M) pc = .ok (.invokestatic idx, 3)) (hk : zkS M idx M' 2) (hw : (rest.map fun v => v.category).sum ≤ 8) (hC : zC G M' [a1, a2] (S, σ, τ) (zR (some v) w')) (kk : zW G M Q q lv (v :: rest) w') : zW G M Q pc lv (a2 :: a1 :: rest) (S, σ, τ) := by
  subst hq
  obtain ⟨h1, h2, h3, h4⟩ := hk
  exact zw_callS [a1, a2] hd h1 h2 h3 h4 rfl hw hC (fun r w1 h => by obtain ⟨rfl, rfl⟩ := h; exact kk)
theorem zw_cSv2 {a1 a2 : Value} (q : Nat) (hq : pc + 3 = q) (hd : decode (zm_cc M) pc = .ok (.invokestatic idx, 3)) (hk : zkS M idx M' 2) (hw : (rest.map fun v => v.category).sum ≤ 8) (hC : zC G M' [a1, a2] (S, σ, τ) (zR none w')) (kk : zW G M Q q lv rest w') : zW G M Q pc lv (a2 :: a1 :: rest) (S, σ, τ) := by
  subst hq
  obtain ⟨h1, h2, h3, h4⟩ := hk
  exact zw_callS [a1, a2] hd h1 h2 h3 h4 rfl hw hC (fun r w1 h => by obtain ⟨rfl, rfl⟩ := h; exact kk)
theorem zw_cSr2 {a1 a2 : Value} {Q' : Option Value → zWd → Prop} (q : Nat) (hq : pc + 3 = q) (hd : decode (zm_cc M) pc = .ok (.invokestatic idx, 3)) (hk : zkS M idx M' 2) (hw : (rest.map fun v => v.category).sum ≤ 8) (hC : zC G M' [a1, a2] (S, σ, τ) Q') (kk : ∀ r w1, Q' r w1 → zW G M Q q lv (r.toList ++ rest) w1) : zW G M Q pc lv (a2 :: a1 :: rest) (S, σ, τ) := by
  subst hq
  obtain ⟨h1, h2, h3, h4⟩ := hk
  exact zw_callS [a1, a2] hd h1 h2 h3 h4 rfl hw hC kk
theorem zw_cVi3 {a1 a2 a3 : Value} {v : Value} (q : Nat) (hq : pc + 3 = q) (hd : decode (zm_cc M) pc = .ok (.invokevirtual idx, 3)) (hk : zkV M idx M' 3 ci) (hw : (rest.map fun v => v.category).sum ≤ 8) (ho : zo S b ci n) (hC : zC G M' [.ref b, a1, a2, a3] (S, σ, τ) (zR (some v) w')) (kk : zW G M Q q lv (v :: rest) w') : zW G M Q pc lv (a3 :: a2 :: a1 :: .ref b :: rest) (S, σ, τ) := by
  subst hq
  obtain ⟨h1, h2, h3, h4, h5, T, N, h6⟩ := hk
  exact zw_callV (C := "") [a1, a2, a3] hd h1 h2 h3 h4 rfl hw h5 h6 ho hC (fun r w1 h => by obtain ⟨rfl, rfl⟩ := h; exact kk)
theorem zw_cVv3 {a1 a2 a3 : Value} (q : Nat) (hq : pc + 3 = q) (hd : decode (zm_cc M) pc = .ok (.invokevirtual idx, 3)) (hk : zkV M idx M' 3 ci) (hw : (rest.map fun v => v.category).sum ≤ 8) (ho : zo S b ci n) (hC : zC G M' [.ref b, a1, a2, a3] (S, σ, τ) (zR none w')) (kk : zW G M Q q lv rest w') : zW G M Q pc lv (a3 :: a2 :: a1 :: .ref b :: rest) (S, σ, τ) := by
  subst hq
  obtain ⟨h1, h2, h3, h4, h5, T, N, h6⟩ := hk
  exact zw_callV (C := "") [a1, a2, a3] hd h1 h2 h3 h4 rfl hw h5 h6 ho hC (fun r w1 h => by obtain ⟨rfl, rfl⟩ := h; exact kk)
theorem zw_cVr3 {a1 a2 a3 : Value} {Q' : Option Value → zWd → Prop} (q : Nat) (hq : pc + 3 = q) (hd : decode (zm_cc M) pc = .ok (.invokevirtual idx, 3)) (hk : zkV M idx M' 3 ci) (hw : (rest.map fun v => v.category).sum ≤ 8) (ho : zo S b ci n) (hC : zC G M' [.ref b, a1, a2, a3] (S, σ, τ) Q') (kk : ∀ r w1, Q' r w1 → zW G M Q q lv (r.toList ++ rest) w1) : zW G M Q pc lv (a3 :: a2 :: a1 :: .ref b :: rest) (S, σ, τ) := by
  subst hq
  obtain ⟨h1, h2, h3, h4, h5, T, N, h6⟩ := hk
  exact zw_callV (C := "") [a1, a2, a3] hd h1 h2 h3 h4 rfl hw h5 h6 ho hC kk
theorem zw_cSi3 {a1 a2 a3 : Value} {v : Value} (q : Nat) (hq : pc + 3 = q) (hd : decode (zm_cc M) pc = .ok (.invokestatic idx, 3)) (hk : zkS M idx M' 3) (hw : (rest.map fun v => v.category).sum ≤ 8) (hC : zC G M' [a1, a2, a3] (S, σ, τ) (zR (some v) w')) (kk : zW G M Q q lv (v :: rest) w') : zW G M Q pc lv (a3 :: a2 :: a1 :: rest) (S, σ, τ) := by
  subst hq
  obtain ⟨h1, h2, h3, h4⟩ := hk
  exact zw_callS [a1, a2, a3] hd h1 h2 h3 h4 rfl hw hC (fun r w1 h => by obtain ⟨rfl, rfl⟩ := h; exact kk)
theorem zw_cSv3 {a1 a2 a3 : Value} (q : Nat) (hq : pc + 3 = q) (hd : decode (zm_cc M) pc = .ok (.invokestatic idx, 3)) (hk : zkS M idx M' 3) (hw : (rest.map fun v => v.category).sum ≤ 8) (hC : zC G M' [a1, a2, a3] (S, σ, τ) (zR none w')) (kk : zW G M Q q lv rest w') : zW G M Q pc lv (a3 :: a2 :: a1 :: rest) (S, σ, τ) := by
  subst hq
  obtain ⟨h1, h2, h3, h4⟩ := hk
  exact zw_callS [a1, a2, a3] hd h1 h2 h3 h4 rfl hw hC (fun r w1 h => by obtain ⟨rfl, rfl⟩ := h; exact kk)
theorem zw_cSr3 {a1 a2 a3 : Value} {Q' : Option Value → zWd → Prop} (q : Nat) (hq : pc + 3 = q) (hd : decode (zm_cc M) pc = .ok (.invokestatic idx, 3)) (hk : zkS M idx M' 3) (hw : (rest.map fun v => v.category).sum ≤ 8) (hC : zC G M' [a1, a2, a3] (S, σ, τ) Q') (kk : ∀ r w1, Q' r w1 → zW G M Q q lv (r.toList ++ rest) w1) : zW G M Q pc lv (a3 :: a2 :: a1 :: rest) (S, σ, τ) := by
  subst hq
  obtain ⟨h1, h2, h3, h4⟩ := hk
  exact zw_callS [a1, a2, a3] hd h1 h2 h3 h4 rfl hw hC kk
theorem zw_cVi4 {a1 a2 a3 a4 : Value} {v : Value} (q : Nat) (hq : pc + 3 = q) (hd : decode (zm_cc M) pc = .ok (.invokevirtual idx, 3)) (hk : zkV M idx M' 4 ci) (hw : (rest.map fun v => v.category).sum ≤ 8) (ho : zo S b ci n) (hC : zC G M' [.ref b, a1, a2, a3, a4] (S, σ, τ) (zR (some v) w')) (kk : zW G M Q q lv (v :: rest) w') : zW G M Q pc lv (a4 :: a3 :: a2 :: a1 :: .ref b :: rest) (S, σ, τ) := by
  subst hq
  obtain ⟨h1, h2, h3, h4, h5, T, N, h6⟩ := hk
  exact zw_callV (C := "") [a1, a2, a3, a4] hd h1 h2 h3 h4 rfl hw h5 h6 ho hC (fun r w1 h => by obtain ⟨rfl, rfl⟩ := h; exact kk)
theorem zw_cVv4 {a1 a2 a3 a4 : Value} (q : Nat) (hq : pc + 3 = q) (hd : decode (zm_cc M) pc = .ok (.invokevirtual idx, 3)) (hk : zkV M idx M' 4 ci) (hw : (rest.map fun v => v.category).sum ≤ 8) (ho : zo S b ci n) (hC : zC G M' [.ref b, a1, a2, a3, a4] (S, σ, τ) (zR none w')) (kk : zW G M Q q lv rest w') : zW G M Q pc lv (a4 :: a3 :: a2 :: a1 :: .ref b :: rest) (S, σ, τ) := by
  subst hq
  obtain ⟨h1, h2, h3, h4, h5, T, N, h6⟩ := hk
  exact zw_callV (C := "") [a1, a2, a3, a4] hd h1 h2 h3 h4 rfl hw h5 h6 ho hC (fun r w1 h => by obtain ⟨rfl, rfl⟩ := h; exact kk)
theorem zw_cVr4 {a1 a2 a3 a4 : Value} {Q' : Option Value → zWd → Prop} (q : Nat) (hq : pc + 3 = q) (hd : decode (zm_cc M) pc = .ok (.invokevirtual idx, 3)) (hk : zkV M idx M' 4 ci) (hw : (rest.map fun v => v.category).sum ≤ 8) (ho : zo S b ci n) (hC : zC G M' [.ref b, a1, a2, a3, a4] (S, σ, τ) Q') (kk : ∀ r w1, Q' r w1 → zW G M Q q lv (r.toList ++ rest) w1) : zW G M Q pc lv (a4 :: a3 :: a2 :: a1 :: .ref b :: rest) (S, σ, τ) := by
  subst hq
  obtain ⟨h1, h2, h3, h4, h5, T, N, h6⟩ := hk
  exact zw_callV (C := "") [a1, a2, a3, a4] hd h1 h2 h3 h4 rfl hw h5 h6 ho hC kk
theorem zw_cSi4 {a1 a2 a3 a4 : Value} {v : Value} (q : Nat) (hq : pc + 3 = q) (hd : decode (zm_cc M) pc = .ok (.invokestatic idx, 3)) (hk : zkS M idx M' 4) (hw : (rest.map fun v => v.category).sum ≤ 8) (hC : zC G M' [a1, a2, a3, a4] (S, σ, τ) (zR (some v) w')) (kk : zW G M Q q lv (v :: rest) w') : zW G M Q pc lv (a4 :: a3 :: a2 :: a1 :: rest) (S, σ, τ) := by
  subst hq
  obtain ⟨h1, h2, h3, h4⟩ := hk
  exact zw_callS [a1, a2, a3, a4] hd h1 h2 h3 h4 rfl hw hC (fun r w1 h => by obtain ⟨rfl, rfl⟩ := h; exact kk)
theorem zw_cSv4 {a1 a2 a3 a4 : Value} (q : Nat) (hq : pc + 3 = q) (hd : decode (zm_cc M) pc = .ok (.invokestatic idx, 3)) (hk : zkS M idx M' 4) (hw : (rest.map fun v => v.category).sum ≤ 8) (hC : zC G M' [a1, a2, a3, a4] (S, σ, τ) (zR none w')) (kk : zW G M Q q lv rest w') : zW G M Q pc lv (a4 :: a3 :: a2 :: a1 :: rest) (S, σ, τ) := by
  subst hq
  obtain ⟨h1, h2, h3, h4⟩ := hk
  exact zw_callS [a1, a2, a3, a4] hd h1 h2 h3 h4 rfl hw hC (fun r w1 h => by obtain ⟨rfl, rfl⟩ := h; exact kk)
theorem zw_cSr4 {a1 a2 a3 a4 : Value} {Q' : Option Value → zWd → Prop} (q : Nat) (hq : pc + 3 = q) (hd : decode (zm_cc M) pc = .ok (.invokestatic idx, 3)) (hk : zkS M idx M' 4) (hw : (rest.map fun v => v.category).sum ≤ 8) (hC : zC G M' [a1, a2, a3, a4] (S, σ, τ) Q') (kk : ∀ r w1, Q' r w1 → zW G M Q q lv (r.toList ++ rest) w1) : zW G M Q pc lv (a4 :: a3 :: a2 :: a1 :: rest) (S, σ, τ) := by
  subst hq
  obtain ⟨h1, h2, h3, h4⟩ := hk
  exact zw_callS [a1, a2, a3, a4] hd h1 h2 h3 h4 rfl hw hC kk
theorem zw_cVi5 {a1 a2 a3 a4 a5 : Value} {v : Value} (q : Nat) (hq : pc + 3 = q) (hd : decode (zm_cc M) pc = .ok (.invokevirtual idx, 3)) (hk : zkV M idx M' 5 ci) (hw : (rest.map fun v => v.category).sum ≤ 8) (ho : zo S b ci n) (hC : zC G M' [.ref b, a1, a2, a3, a4, a5] (S, σ, τ) (zR (some v) w')) (kk : zW G M Q q lv (v :: rest) w') : zW G M Q pc lv (a5 :: a4 :: a3 :: a2 :: a1 :: .ref b :: rest) (S, σ, τ) := by
  subst hq
  obtain ⟨h1, h2, h3, h4, h5, T, N, h6⟩ := hk
  exact zw_callV (C := "") [a1, a2, a3, a4, a5] hd h1 h2 h3 h4 rfl hw h5 h6 ho hC (fun r w1 h => by obtain ⟨rfl, rfl⟩ := h; exact kk)
theorem zw_cVv5 {a1 a2 a3 a4 a5 : Value} (q : Nat) (hq : pc + 3 = q) (hd : decode (zm_cc M) pc = .ok (.invokevirtual idx, 3)) (hk : zkV M idx M' 5 ci) (hw : (rest.map fun v => v.category).sum ≤ 8) (ho : zo S b ci n) (hC : zC G M' [.ref b, a1, a2, a3, a4, a5] (S, σ, τ) (zR none w')) (kk : zW G M Q q lv rest w') : zW G M Q pc lv (a5 :: a4 :: a3 :: a2 :: a1 :: .ref b :: rest) (S, σ, τ) := by
  subst hq
  obtain ⟨h1, h2, h3, h4, h5, T, N, h6⟩ := hk
  exact zw_callV (C := "") [a1, a2, a3, a4, a5] hd h1 h2 h3 h4 rfl hw h5 h6 ho hC (fun r w1 h => by obtain ⟨rfl, rfl⟩ := h; exact kk)
theorem zw_cVr5 {a1 a2 a3 a4 a5 : Value} {Q' : Option Value → zWd → Prop} (q : Nat) (hq : pc + 3 = q) (hd : decode (zm_cc M) pc = .ok (.invokevirtual idx, 3)) (hk : zkV M idx M' 5 ci) (hw : (rest.map fun v => v.category).sum ≤ 8) (ho : zo S b ci n) (hC : zC G M' [.ref b, a1, a2, a3, a4, a5] (S, σ, τ) Q') (kk : ∀ r w1, Q' r w1 → zW G M Q q lv (r.toList ++ rest) w1) : zW G M Q pc lv (a5 :: a4 :: a3 :: a2 :: a1 :: .ref b :: rest) (S, σ, τ) := by
  subst hq
  obtain ⟨h1, h2, h3, h4, h5, T, N, h6⟩ := hk
  exact zw_callV (C := "") [a1, a2, a3, a4, a5] hd h1 h2 h3 h4 rfl hw h5 h6 ho hC kk
theorem zw_cSi5 {a1 a2 a3 a4 a5 : Value} {v : Value} (q : Nat) (hq : pc + 3 = q) (hd : decode (zm_cc M) pc = .ok (.invokestatic idx, 3)) (hk : zkS M idx M' 5) (hw : (rest.map fun v => v.category).sum ≤ 8) (hC : zC G M' [a1, a2, a3, a4, a5] (S, σ, τ) (zR (some v) w')) (kk : zW G M Q q lv (v :: rest) w') : zW G M Q pc lv (a5 :: a4 :: a3 :: a2 :: a1 :: rest) (S, σ, τ) := by
  subst hq
  obtain ⟨h1, h2, h3, h4⟩ := hk
  exact zw_callS [a1, a2, a3, a4, a5] hd h1 h2 h3 h4 rfl hw hC (fun r w1 h => by obtain ⟨rfl, rfl⟩ := h; exact kk)
theorem zw_cSv5 {a1 a2 a3 a4 a5 : Value} (q : Nat) (hq : pc + 3 = q) (hd : decode (zm_cc M) pc = .ok (.invokestatic idx, 3)) (hk : zkS M idx M' 5) (hw : (rest.map fun v => v.category).sum ≤ 8) (hC : zC G M' [a1, a2, a3, a4, a5] (S, σ, τ) (zR none w')) (kk : zW G M Q q lv rest w') : zW G M Q pc lv (a5 :: a4 :: a3 :: a2 :: a1 :: rest) (S, σ, τ) := by
  subst hq
  obtain ⟨h1, h2, h3, h4⟩ := hk
  exact zw_callS [a1, a2, a3, a4, a5] hd h1 h2 h3 h4 rfl hw hC (fun r w1 h => by obtain ⟨rfl, rfl⟩ := h; exact kk)
theorem zw_cSr5 {a1 a2 a3 a4 a5 : Value} {Q' : Option Value → zWd → Prop} (q : Nat) (hq : pc + 3 = q) (hd : decode (zm_cc M) pc = .ok (.invokestatic idx, 3)) (hk : zkS M idx M' 5) (hw : (rest.map fun v => v.category).sum ≤ 8) (hC : zC G M' [a1, a2, a3, a4, a5] (S, σ, τ) Q') (kk : ∀ r w1, Q' r w1 → zW G M Q q lv (r.toList ++ rest) w1) : zW G M Q pc lv (a5 :: a4 :: a3 :: a2 :: a1 :: rest) (S, σ, τ) := by
  subst hq
  obtain ⟨h1, h2, h3, h4⟩ := hk
  exact zw_callS [a1, a2, a3, a4, a5] hd h1 h2 h3 h4 rfl hw hC kk
theorem zw_cVi6 {a1 a2 a3 a4 a5 a6 : Value} {v : Value} (q : Nat) (hq : pc + 3 = q) (hd : decode (zm_cc M) pc = .ok (.invokevirtual idx, 3)) (hk : zkV M idx M' 6 ci) (hw : (rest.map fun v => v.category).sum ≤ 8) (ho : zo S b ci n) (hC : zC G M' [.ref b, a1, a2, a3, a4, a5, a6] (S, σ, τ) (zR (some v) w')) (kk : zW G M Q q lv (v :: rest) w') : zW G M Q pc lv (a6 :: a5 :: a4 :: a3 :: a2 :: a1 :: .ref b :: rest) (S, σ, τ) := by
  subst hq
  obtain ⟨h1, h2, h3, h4, h5, T, N, h6⟩ := hk
  exact zw_callV (C := "") [a1, a2, a3, a4, a5, a6] hd h1 h2 h3 h4 rfl hw h5 h6 ho hC (fun r w1 h => by obtain ⟨rfl, rfl⟩ := h; exact kk)
theorem zw_cVv6 {a1 a2 a3 a4 a5 a6 : Value} (q : Nat) (hq : pc + 3 = q) (hd : decode (zm_cc M) pc = .ok (.invokevirtual idx, 3)) (hk : zkV M idx M' 6 ci) (hw : (rest.map fun v => v.category).sum ≤ 8) (ho : zo S b ci n) (hC : zC G M' [.ref b, a1, a2, a3, a4, a5, a6] (S, σ, τ) (zR none w')) (kk : zW G M Q q lv rest w') : zW G M Q pc lv (a6 :: a5 :: a4 :: a3 :: a2 :: a1 :: .ref b :: rest) (S, σ, τ) := by
  subst hq
  obtain ⟨h1, h2, h3, h4, h5, T, N, h6⟩ := hk
  exact zw_callV (C := "") [a1, a2, a3, a4, a5, a6] hd h1 h2 h3 h4 rfl hw h5 h6 ho hC (fun r w1 h => by obtain ⟨rfl, rfl⟩ := h; exact kk)
theorem zw_cVr6 {a1 a2 a3 a4 a5 a6 : Value} {Q' : Option Value → zWd → Prop} (q : Nat) (hq : pc + 3 = q) (hd : decode (zm_cc M) pc = .ok (.invokevirtual idx, 3)) (hk : zkV M idx M' 6 ci) (hw : (rest.map fun v => v.category).sum ≤ 8) (ho : zo S b ci n) (hC : zC G M' [.ref b, a1, a2, a3, a4, a5, a6] (S, σ, τ) Q') (kk : ∀ r w1, Q' r w1 → zW G M Q q lv (r.toList ++ rest) w1) : zW G M Q pc lv (a6 :: a5 :: a4 :: a3 :: a2 :: a1 :: .ref b :: rest) (S, σ, τ) := by
  subst hq
  obtain ⟨h1, h2, h3, h4, h5, T, N, h6⟩ := hk
  exact zw_callV (C := "") [a1, a2, a3, a4, a5, a6] hd h1 h2 h3 h4 rfl hw h5 h6 ho hC kk
theorem zw_cSi6 {a1 a2 a3 a4 a5 a6 : Value} {v : Value} (q : Nat) (hq : pc + 3 = q) (hd : decode (zm_cc M) pc = .ok (.invokestatic idx, 3)) (hk : zkS M idx M' 6) (hw : (rest.map fun v => v.category).sum ≤ 8) (hC : zC G M' [a1, a2, a3, a4, a5, a6] (S, σ, τ) (zR (some v) w')) (kk : zW G M Q q lv (v :: rest) w') : zW G M Q pc lv (a6 :: a5 :: a4 :: a3 :: a2 :: a1 :: rest) (S, σ, τ) := by
  subst hq
  obtain ⟨h1, h2, h3, h4⟩ := hk
  exact zw_callS [a1, a2, a3, a4, a5, a6] hd h1 h2 h3 h4 rfl hw hC (fun r w1 h => by obtain ⟨rfl, rfl⟩ := h; exact kk)
theorem zw_cSv6 {a1 a2 a3 a4 a5 a6 : Value} (q : Nat) (hq : pc + 3 = q) (hd : decode (zm_cc M) pc = .ok (.invokestatic idx, 3)) (hk : zkS M idx M' 6) (hw : (rest.map fun v => v.category).sum ≤ 8) (hC : zC G M' [a1, a2, a3, a4, a5, a6] (S, σ, τ) (zR none w')) (kk : zW G M Q q lv rest w') : zW G M Q pc lv (a6 :: a5 :: a4 :: a3 :: a2 :: a1 :: rest) (S, σ, τ) := by
  subst hq
  obtain ⟨h1, h2, h3, h4⟩ := hk
  exact zw_callS [a1, a2, a3, a4, a5, a6] hd h1 h2 h3 h4 rfl hw hC (fun r w1 h => by obtain ⟨rfl, rfl⟩ := h; exact kk)
theorem zw_cSr6 {a1 a2 a3 a4 a5 a6 : Value} {Q' : Option Value → zWd → Prop} (q : Nat) (hq : pc + 3 = q) (hd : decode (zm_cc M) pc = .ok (.invokestatic idx, 3)) (hk : zkS M idx M' 6) (hw : (rest.map fun v => v.category).sum ≤ 8) (hC : zC G M' [a1, a2, a3, a4, a5, a6] (S, σ, τ) Q') (kk : ∀ r w1, Q' r w1 → zW G M Q q lv (r.toList ++ rest) w1) : zW G M Q pc lv (a6 :: a5 :: a4 :: a3 :: a2 :: a1 :: rest) (S, σ, τ) := by
  subst hq
  obtain ⟨h1, h2, h3, h4⟩ := hk
  exact zw_callS [a1, a2, a3, a4, a5, a6] hd h1 h2 h3 h4 rfl hw hC kk
theorem zw_cVi7 {a1 a2 a3 a4 a5 a6 a7 : Value} {v : Value} (q : Nat) (hq : pc + 3 = q) (hd : decode (zm_cc M) pc = .ok (.invokevirtual idx, 3)) (hk : zkV M idx M' 7 ci) (hw : (rest.map fun v => v.category).sum ≤ 8) (ho : zo S b ci n) (hC : zC G M' [.ref b, a1, a2, a3, a4, a5, a6, a7] (S, σ, τ) (zR (some v) w')) (kk : zW G M Q q lv (v :: rest) w') : zW G M Q pc lv (a7 :: a6 :: a5 :: a4 :: a3 :: a2 :: a1 :: .ref b :: rest) (S, σ, τ) := by
  subst hq
  obtain ⟨h1, h2, h3, h4, h5, T, N, h6⟩ := hk
  exact zw_callV (C := "") [a1, a2, a3, a4, a5, a6, a7] hd h1 h2 h3 h4 rfl hw h5 h6 ho hC (fun r w1 h => by obtain ⟨rfl, rfl⟩ := h; exact kk)
theorem zw_cVv7 {a1 a2 a3 a4 a5 a6 a7 : Value} (q : Nat) (hq : pc + 3 = q) (hd : decode (zm_cc M) pc = .ok (.invokevirtual idx, 3)) (hk : zkV M idx M' 7 ci) (hw : (rest.map fun v => v.category).sum ≤ 8) (ho : zo S b ci n) (hC : zC G M' [.ref b, a1, a2, a3, a4, a5, a6, a7] (S, σ, τ) (zR none w')) (kk : zW G M Q q lv rest w') : zW G M Q pc lv (a7 :: a6 :: a5 :: a4 :: a3 :: a2 :: a1 :: .ref b :: rest) (S, σ, τ) := by
  subst hq
  obtain ⟨h1, h2, h3, h4, h5, T, N, h6⟩ := hk
  exact zw_callV (C := "") [a1, a2, a3, a4, a5, a6, a7] hd h1 h2 h3 h4 rfl hw h5 h6 ho hC (fun r w1 h => by obtain ⟨rfl, rfl⟩ := h; exact kk)
theorem zw_cVr7 {a1 a2 a3 a4 a5 a6 a7 : Value} {Q' : Option Value → zWd → Prop} (q : Nat) (hq : pc + 3 = q) (hd : decode (zm_cc M) pc = .ok (.invokevirtual idx, 3)) (hk : zkV M idx M' 7 ci) (hw : (rest.map fun v => v.category).sum ≤ 8) (ho : zo S b ci n) (hC : zC G M' [.ref b, a1, a2, a3, a4, a5, a6, a7] (S, σ, τ) Q') (kk : ∀ r w1, Q' r w1 → zW G M Q q lv (r.toList ++ rest) w1) : zW G M Q pc lv (a7 :: a6 :: a5 :: a4 :: a3 :: a2 :: a1 :: .ref b :: rest) (S, σ, τ) := by
  subst hq
  obtain ⟨h1, h2, h3, h4, h5, T, N, h6⟩ := hk
  exact zw_callV (C := "") [a1, a2, a3, a4, a5, a6, a7] hd h1 h2 h3 h4 rfl hw h5 h6 ho hC kk
theorem zw_cSi7 {a1 a2 a3 a4 a5 a6 a7 : Value} {v : Value} (q : Nat) (hq : pc + 3 = q) (hd : decode (zm_cc M) pc = .ok (.invokestatic idx, 3)) (hk : zkS M idx M' 7) (hw : (rest.map fun v => v.category).sum ≤ 8) (hC : zC G M' [a1, a2, a3, a4, a5, a6, a7] (S, σ, τ) (zR (some v) w')) (kk : zW G M Q q lv (v :: rest) w') : zW G M Q pc lv (a7 :: a6 :: a5 :: a4 :: a3 :: a2 :: a1 :: rest) (S, σ, τ) := by
  subst hq
  obtain ⟨h1, h2, h3, h4⟩ := hk
  exact zw_callS [a1, a2, a3, a4, a5, a6, a7] hd h1 h2 h3 h4 rfl hw hC (fun r w1 h => by obtain ⟨rfl, rfl⟩ := h; exact kk)
theorem zw_cSv7 {a1 a2 a3 a4 a5 a6 a7 : Value} (q : Nat) (hq : pc + 3 = q) (hd : decode (zm_cc M) pc = .ok (.invokestatic idx, 3)) (hk : zkS M idx M' 7) (hw : (rest.map fun v => v.category).sum ≤ 8) (hC : zC G M' [a1, a2, a3, a4, a5, a6, a7] (S, σ, τ) (zR none w')) (kk : zW G M Q q lv rest w') : zW G M Q pc lv (a7 :: a6 :: a5 :: a4 :: a3 :: a2 :: a1 :: rest) (S, σ, τ) := by
  subst hq
  obtain ⟨h1, h2, h3, h4⟩ := hk
  exact zw_callS [a1, a2, a3, a4, a5, a6, a7] hd h1 h2 h3 h4 rfl hw hC (fun r w1 h => by obtain ⟨rfl, rfl⟩ := h; exact kk)
theorem zw_cSr7 {a1 a2 a3 a4 a5 a6 a7 : Value} {Q' : Option Value → zWd → Prop} (q : Nat) (hq : pc + 3 = q) (hd : decode (zm_cc M) pc = .ok (.invokestatic idx, 3)) (hk : zkS M idx M' 7) (hw : (rest.map fun v => v.category).sum ≤ 8) (hC : zC G M' [a1, a2, a3, a4, a5, a6, a7] (S, σ, τ) Q') (kk : ∀ r w1, Q' r w1 → zW G M Q q lv (r.toList ++ rest) w1) : zW G M Q pc lv (a7 :: a6 :: a5 :: a4 :: a3 :: a2 :: a1 :: rest) (S, σ, τ) := by
  subst hq
  obtain ⟨h1, h2, h3, h4⟩ := hk
  exact zw_callS [a1, a2, a3, a4, a5, a6, a7] hd h1 h2 h3 h4 rfl hw hC kk
end ZK
def zkc (R : String) (idx : Nat) (c : Int) : Prop := Cond.constant R idx (zI c) ∈ zt_tbl
def zkl (R : String) (idx : Nat) (c : Int) : Prop := Cond.constantLong R idx (zL c) ∈ zt_tbl
section ZT
variable {G : zG} {M : zMt} {Q : Option Value → zWd → Prop} {pc : Nat} {lv : List (Option Value)} {st : List Value} {S : zSh} {σ τ : zSt} {w : zWd} {idx : Nat}
theorem zw_ldc {c : Int} (q : Nat) (hq : pc + 2 = q) (hd : decode (zm_cc M) pc = .ok (.ldc idx, 2)) (hk : zkc (zm_y M).cls idx c) (k : zW G M Q q lv (vi c :: st) w) : zW G M Q pc lv st w := by
  subst hq
  intro p l e s m args below meth c H locs ls hc hl hh
  exact lv_ldc hc.1 hc.2.1 hc.2.2.2.2.2.2.1 (hc.2.2.2.2.2.1 _ (List.mem_cons_of_mem _ hk)) hd (k p l e s m args below meth c H locs ls hc hl hh)
theorem zw_ldc_w {c : Int} (q : Nat) (hq : pc + 3 = q) (hd : decode (zm_cc M) pc = .ok (.ldc_w idx, 3)) (hk : zkc (zm_y M).cls idx c) (k : zW G M Q q lv (vi c :: st) w) : zW G M Q pc lv st w := by
  subst hq
  intro p l e s m args below meth c H locs ls hc hl hh
  exact lv_ldcw hc.1 hc.2.1 hc.2.2.2.2.2.2.1 (hc.2.2.2.2.2.1 _ (List.mem_cons_of_mem _ hk)) hd (k p l e s m args below meth c H locs ls hc hl hh)
theorem zw_ldc2_w {c : Int} (q : Nat) (hq : pc + 3 = q) (hd : decode (zm_cc M) pc = .ok (.ldc2_w idx, 3)) (hk : zkl (zm_y M).cls idx c) (k : zW G M Q q lv (vl c :: st) w) : zW G M Q pc lv st w := by
  subst hq
  intro p l e s m args below meth c H locs ls hc hl hh
  exact lv_ldc2 hc.1 hc.2.1 hc.2.2.2.2.2.2.1 (hc.2.2.2.2.2.1 _ (List.mem_cons_of_mem _ hk)) hd (k p l e s m args below meth c H locs ls hc hl hh)
theorem zw_getE (q : Nat) (hq : pc + 3 = q) (hd : decode (zm_cc M) pc = .ok (.getstatic idx, 3)) (hk : Cond.fieldLink (zm_y M).cls idx "ShadeGrid$Lattice" "ECHOES" "[I" ∈ zt_tbl) (k : zW G M Q q lv (.ref (zgE G) :: st) w) : zW G M Q pc lv st w := by
  subst hq
  intro p l e s m args below meth c H locs ls hc hl hh
  exact va_gets hc.1 hc.2.1 hc.2.2.2.2.2.2.2.2.2.1 hh.2.2 hc.2.2.2.2.2.2.1 (hc.2.2.2.2.2.1 _ (List.mem_cons_of_mem _ hk)) (fun _ h9 => h9) hd (k p l e s m args below meth c H locs ls hc hl hh)
theorem zw_getP (q : Nat) (hq : pc + 3 = q) (hd : decode (zm_cc M) pc = .ok (.getstatic idx, 3)) (hk : Cond.fieldLink (zm_y M).cls idx "ShadeGrid$Pairs" "GAPS" "[I" ∈ zt_tbl) (k : zW G M Q q lv (.ref (zgP G) :: st) w) : zW G M Q pc lv st w := by
  subst hq
  intro p l e s m args below meth c H locs ls hc hl hh
  exact va_gets hc.1 hc.2.1 hc.2.2.2.2.2.2.2.2.2.2.2.1 hh.2.2 hc.2.2.2.2.2.2.1 (hc.2.2.2.2.2.1 _ (List.mem_cons_of_mem _ hk)) (fun _ h9 => h9) hd (k p l e s m args below meth c H locs ls hc hl hh)
theorem zw_tabE {i : Int} (q : Nat) (hq : pc + 1 = q) (hd : decode (zm_cc M) pc = .ok (.iaload, 1)) (hi : 0 ≤ i ∧ i < 28) (k : zW G M Q q lv (vi (z_ech i.toNat) :: st) w) : zW G M Q pc lv (vi i :: .ref (zgE G) :: st) w := by
  subst hq
  intro p l e s m args below meth c H locs ls hc hl hh
  exact va_ti hc.1 hc.2.1 hc.2.2.2.2.2.2.2.2.2.2.1 hh.2.2 (zI_in (n := 28) (by omega) (by omega)) (by rw [zI_cl (by omega)]) hd (k p l e s m args below meth c H locs ls hc hl hh)
theorem zw_tabP {i : Int} (q : Nat) (hq : pc + 1 = q) (hd : decode (zm_cc M) pc = .ok (.iaload, 1)) (hi : 0 ≤ i ∧ i < 6) (k : zW G M Q q lv (vi (z_gap i.toNat) :: st) w) : zW G M Q pc lv (vi i :: .ref (zgP G) :: st) w := by
  subst hq
  intro p l e s m args below meth c H locs ls hc hl hh
  exact va_ti hc.1 hc.2.1 hc.2.2.2.2.2.2.2.2.2.2.2.2 hh.2.2 (zI_in (n := 6) (by omega) (by omega)) (by rw [zI_cl (by omega)]) hd (k p l e s m args below meth c H locs ls hc hl hh)
theorem zw_alenP (q : Nat) (hq : pc + 1 = q) (hd : decode (zm_cc M) pc = .ok (.arraylength, 1)) (k : zW G M Q q lv (vi 6 :: st) w) : zW G M Q pc lv (.ref (zgP G) :: st) w := by
  subst hq
  intro p l e s m args below meth c H locs ls hc hl hh
  have k := k p l e s m args below meth c H locs ls hc hl hh
  obtain ⟨cell, h1, h2, h3, h4, h5, h6, h7⟩ := hc.2.2.2.2.2.2.2.2.2.2.2.2
  exact W.alen (n := zI 6) hc.1 hc.2.1 (by rw [hh.2.2.2.1 _ (Array.getElem?_eq_some_iff.mp h1).1 h7]; exact h1) h2 h5 rfl rfl hd k
def zk_cp (R : String) (idx : Nat) : Prop := Cond.methodLink R idx arraycopyName ∈ zt_tbl
theorem zcp_n : Cond.native arraycopyName ∈ zt_tbl := zt_t 454 (by decide +kernel) rfl
theorem zcp_s : Cond.static arraycopyName ∈ zt_tbl := zt_t 453 (by decide +kernel) rfl
theorem zcp_i : Cond.initialized "java/lang/System" ∈ zt_tbl := zt_t 14 (by decide +kernel) rfl
theorem zw_copyi {a0 a n0 n1 : Nat} {n : Int} (q : Nat) (hq : pc + 3 = q) (hd : decode (zm_cc M) pc = .ok (.invokestatic idx, 3)) (hk : zk_cp (zm_y M).cls idx) (hR : 1 ≤ zm_fr M ∧ (st.map fun v => v.category).sum + 18 ≤ zm_lw M) (h0 : zo S a0 12 n0) (h1 : zo S a 12 n1) (hn : 0 ≤ n ∧ n ≤ n0 ∧ n ≤ n1 ∧ n ≤ 2147483647) (kk : zW G M Q q lv st (S, zr σ a (fun j => if j < n.toNat then σ a0 j else σ a j), τ)) : zW G M Q pc lv (vi n :: vi 0 :: .ref a :: vi 0 :: .ref a0 :: st) (S, σ, τ) := by
  subst hq
  intro p l e s m args below meth c H locs ls hc hl hh
  obtain ⟨q0, hq00⟩ := z_at (G := G) (σ := σ) (τ := τ) h0
  obtain ⟨q1, hq10⟩ := z_at (G := G) (σ := σ) (τ := τ) h1
  have hq0 := hq00
  have hq1 := hq10
  rw [z_cell_i h0] at hq0
  rw [z_cell_i h1] at hq1
  have tb : ∀ w ∈ zt_tbl, w.before args s = true := fun w hw => hc.2.2.2.2.2.1 w (List.mem_cons_of_mem _ hw)
  have e0 : (zI 0).toNatClampNeg = 0 := rfl
  have en : (zI n).toNatClampNeg = n.toNat := zI_cl (by omega)
  refine va_copyi hc.1 hc.2.1 (hc.2.2.1.trans hl.size.symm) hc.2.2.2.2.2.2.1 (tb _ hk) (tb _ zcp_n) (tb _ zcp_s) (tb _ zcp_i) hc.2.2.2.2.2.2.2.1 hh.1 hh.2.1 hh.2.2 q0 q1 0 0 hq0 hq1 rfl rfl rfl (by decide) (by decide) (by rw [zI_0, zI_lt (by omega) (by omega)]; omega) (by rw [e0, en]; omega) (by rw [e0, en]; omega) (fun _ _ => rfl) hR.1 hR.2 hd ?_
  intro H1 locs1 hP hD hS
  have hset : (z_ws G (S, σ, τ)).set q1 (a, .inl (G.2.1.1, n1, .inl (va_cpy (fun j => zI (σ a0 j)) (fun j => zI (σ a j)) (zI 0).toNatClampNeg (zI 0).toNatClampNeg (zI n).toNatClampNeg))) = z_ws G (S, zr σ a (fun j => if j < n.toNat then σ a0 j else σ a j), τ) := by
    refine z_put hh.2.1 h1 hq10 ?_ (fun b hb => ⟨zr_ne σ _ hb, rfl⟩)
    rw [z_cell_i h1, zr_eq, e0, en]
    congr 4
    funext j
    simp only [va_cpy]
    by_cases hj : j < n.toNat <;> simp [hj]
  rw [hset] at hP hD
  exact kk p l e s m args below meth c H1 locs1 ls hc hl ⟨hP, hD, hS⟩
end ZT
theorem kX10_211 : zkc RX10 211 (65536) := zt_t 593 (by decide +kernel) rfl
theorem kX10_215 : zkc RX10 215 (65537) := zt_t 595 (by decide +kernel) rfl
theorem kX11_44 : zkc RX11 44 (34086) := zt_t 1064 (by decide +kernel) rfl
theorem kX11_206 : zkc RX11 206 (65536) := zt_t 1354 (by decide +kernel) rfl
theorem kX3_46 : zkl RX3 46 (3) := zt_t 646 (by decide +kernel) rfl
theorem kJ13_314 : zkl RJ13 314 (6148914691236517205) := zt_t 663 (by decide +kernel) rfl
theorem kJ13_316 : zkl RJ13 316 (3689348814741910323) := zt_t 664 (by decide +kernel) rfl
theorem kJ13_318 : zkl RJ13 318 (1085102592571150095) := zt_t 665 (by decide +kernel) rfl
theorem kX10_255 : zkl RX10 255 (-1) := zt_t 683 (by decide +kernel) rfl
theorem kX10_423 : zkl RX10 423 (2) := zt_t 758 (by decide +kernel) rfl
theorem kX10_303 : zkl RX10 303 (100) := zt_t 803 (by decide +kernel) rfl
theorem kX10_389 : zkl RX10 389 (17) := zt_t 966 (by decide +kernel) rfl
theorem kX11_207 : zkl RX11 207 (75) := zt_t 1355 (by decide +kernel) rfl
theorem kX11_209 : zkl RX11 209 (74) := zt_t 1356 (by decide +kernel) rfl
theorem kX11_211 : zkl RX11 211 (65537) := zt_t 1357 (by decide +kernel) rfl
theorem kX11_247 : zkl RX11 247 (2) := zt_t 1429 (by decide +kernel) rfl
theorem kX11_325 : zkl RX11 325 (100) := zt_t 1498 (by decide +kernel) rfl
theorem kX11_353 : zkl RX11 353 (17) := zt_t 1583 (by decide +kernel) rfl
theorem kcX2_22 : zk_cp RX2 22 := zt_t 452 (by decide +kernel) rfl
theorem kcX5_31 : zk_cp RX5 31 := zt_t 459 (by decide +kernel) rfl
theorem kE : Cond.fieldLink RX1 108 "ShadeGrid$Lattice" "ECHOES" "[I" ∈ zt_tbl := zt_t 633 (by decide +kernel) rfl
theorem kP : Cond.fieldLink RX4 53 "ShadeGrid$Pairs" "GAPS" "[I" ∈ zt_tbl := zt_t 935 (by decide +kernel) rfl
