theorem Y_region {G : zG} {C : Nat} {σ τ : zSt} {A : zA} {p t i what : Int} (h : zmR C σ τ A) (hp : -2147483648 ≤ p ∧ p ≤ 2147483647) (ht : -2147483648 ≤ t ∧ t ≤ 2147483647) (hi : -2147483648 ≤ i ∧ i ≤ 2147483647) (hwhat : -2147483648 ≤ what ∧ what ≤ 2147483647) : zC G M_X11_region [.ref C, vi p, vi t, vi i, vi what] (zmS C, σ, τ) (mQ C (sp_region A p t i what)) := by
  have hP := (mThrown (v := 0)).P h.p
  refine zC_of 6 rfl (Nat.le_of_ble_eq_true rfl) ?_
  have key : aTold A p → (0 ≤ what ∧ what ≤ 4) → (0 ≤ t ∧ t ≤ 255) → (0 ≤ i ∧ i ≤ (rFind (A.1 p.toNat) t).2 - 1) → ∀ σs : zSt, mRM C (zu σ C 0 0) (A.1 p.toNat) (rFind (A.1 p.toNat) t) σs → zW G M_X11_region (mQ C (sp_region A p t i what)) 85 [some (.ref C), some (vi p), some (vi t), some (vi i), some (vi what), some (vi (zfold (fun (k : Nat) (m : Int) => if σs (C + 20) k = i then (if m = -1 then (k : Int) else m) else m) 0 (-1))), some (vi (zfold (fun (k : Nat) (m : Int) => if σs (C + 20) k = i then m + 1 else m) 0 0)), some (vi (zfold (fun (k : Nat) (m : Int) => if σs (C + 20) k = i then (if (A.1 p.toNat).2.2 ((k : Int) % 16) ((k : Int) / 16) < m then (A.1 p.toNat).2.2 ((k : Int) % 16) ((k : Int) / 16) else m) else m) 0 255)), some (vi (zfold (fun (k : Nat) (m : Int) => if σs (C + 20) k = i then (if m < (A.1 p.toNat).2.2 ((k : Int) % 16) ((k : Int) / 16) then (A.1 p.toNat).2.2 ((k : Int) % 16) ((k : Int) / 16) else m) else m) 0 0)), some (vi (0 : Nat)), none] [] (zmS C, σs, τ) := by
    intro hc1 hc2 hc3 hc4 σs hm
    have hw := (hP.pc hc1).wh
    have hq : mPc C σs p (A.1 p.toNat) := (hP.pc hc1).s (by omega) (mSc2.rgn hm.1)
    have hJ := rFind_J (p := (A.1 p.toNat)) (t := t) hw
    have e1 : (zfold (fun (k : Nat) (m : Int) => if σs (C + 20) k = i then (if m = -1 then (k : Int) else m) else m) 192 (-1)) = rFm (A.1 p.toNat) (rFind (A.1 p.toNat) t).1 i := by
      unfold rFm
      rw [← hm.lin hw hc4.1 (fun x y (m : Int) => if m = -1 then 16 * y + x else m) (-1)]
      refine zfold_cong _ _ (fun k m hk => ?_)
      show _ = if σs (C + 20) k = i then (if m = -1 then 16 * ((k : Int) / 16) + (k : Int) % 16 else m) else m
      rw [show 16 * ((k : Int) / 16) + (k : Int) % 16 = k by omega]
    have e2 : (zfold (fun (k : Nat) (m : Int) => if σs (C + 20) k = i then m + 1 else m) 192 0) = rcnt (A.1 p.toNat) i (rFind (A.1 p.toNat) t).1 := by
      unfold rcnt
      rw [zwin_cong (g := fun x y m => if (rFind (A.1 p.toNat) t).1 x y = i then m + 1 else m) (fun x y _ _ b => by split <;> omega), ← hm.lin hw hc4.1 (fun _ _ (m : Int) => m + 1) 0]
    have e3 : (zfold (fun (k : Nat) (m : Int) => if σs (C + 20) k = i then (if (A.1 p.toNat).2.2 ((k : Int) % 16) ((k : Int) / 16) < m then (A.1 p.toNat).2.2 ((k : Int) % 16) ((k : Int) / 16) else m) else m) 192 255) = rLeast (A.1 p.toNat) (rFind (A.1 p.toNat) t).1 i := hm.lin hw hc4.1 (fun x y (m : Int) => if (A.1 p.toNat).2.2 x y < m then (A.1 p.toNat).2.2 x y else m) 255
    have e4 : (zfold (fun (k : Nat) (m : Int) => if σs (C + 20) k = i then (if m < (A.1 p.toNat).2.2 ((k : Int) % 16) ((k : Int) / 16) then (A.1 p.toNat).2.2 ((k : Int) % 16) ((k : Int) / 16) else m) else m) 192 0) = rMost (A.1 p.toNat) (rFind (A.1 p.toNat) t).1 i := hm.lin hw hc4.1 (fun x y (m : Int) => if m < (A.1 p.toNat).2.2 x y then (A.1 p.toNat).2.2 x y else m) 0
    have hf := rFm_e (p := (A.1 p.toNat)) (R := (rFind (A.1 p.toNat) t).1) (i := i) hw (rFind_ex (by omega))
    have hrg : ∀ k : Nat, k < 192 → -1 ≤ σs (C + 20) k ∧ σs (C + 20) k ≤ 192 ∧ (σs (C + 20) k = i → aIn (A.1 p.toNat) ((k : Int) % 16) ((k : Int) / 16)) := fun k hk => by
      by_cases q : aIn (A.1 p.toNat) ((k : Int) % 16) ((k : Int) / 16)
      · have e := hm.2.1 _ _ q
        rw [show (16 * ((k : Int) / 16) + (k : Int) % 16).toNat = k by omega] at e
        rw [e]
        have := hJ.2.2 ((k : Int) % 16) ((k : Int) / 16)
        exact ⟨this.1, this.2, fun _ => q⟩
      · have e := hm.2.2 k hk q
        rw [e]
        exact ⟨by omega, by omega, fun u => by omega⟩
    have rF : ∀ n : Nat, n ≤ 192 → -1 ≤ (zfold (fun (k : Nat) (m : Int) => if σs (C + 20) k = i then (if m = -1 then (k : Int) else m) else m) n (-1)) ∧ (zfold (fun (k : Nat) (m : Int) => if σs (C + 20) k = i then (if m = -1 then (k : Int) else m) else m) n (-1)) ≤ n := fun n hn => zfold_ind (fun (n : Nat) (m : Int) => -1 ≤ m ∧ m ≤ n) n (by omega) (fun a b ha hb => by (repeat' split) <;> omega)
    have rL : ∀ n : Nat, n ≤ 192 → 0 ≤ (zfold (fun (k : Nat) (m : Int) => if σs (C + 20) k = i then (if (A.1 p.toNat).2.2 ((k : Int) % 16) ((k : Int) / 16) < m then (A.1 p.toNat).2.2 ((k : Int) % 16) ((k : Int) / 16) else m) else m) n 255) ∧ (zfold (fun (k : Nat) (m : Int) => if σs (C + 20) k = i then (if (A.1 p.toNat).2.2 ((k : Int) % 16) ((k : Int) / 16) < m then (A.1 p.toNat).2.2 ((k : Int) % 16) ((k : Int) / 16) else m) else m) n 255) ≤ 255 := fun n hn => zfold_ind (fun (n : Nat) (m : Int) => 0 ≤ m ∧ m ≤ 255) n (by omega) (fun a b ha hb => by
      split
      · rename_i u; have := (hrg a (by omega)).2.2 u; have := hq.d this.1 this.2; split <;> omega
      · exact hb)
    have rM : ∀ n : Nat, n ≤ 192 → 0 ≤ (zfold (fun (k : Nat) (m : Int) => if σs (C + 20) k = i then (if m < (A.1 p.toNat).2.2 ((k : Int) % 16) ((k : Int) / 16) then (A.1 p.toNat).2.2 ((k : Int) % 16) ((k : Int) / 16) else m) else m) n 0) ∧ (zfold (fun (k : Nat) (m : Int) => if σs (C + 20) k = i then (if m < (A.1 p.toNat).2.2 ((k : Int) % 16) ((k : Int) / 16) then (A.1 p.toNat).2.2 ((k : Int) % 16) ((k : Int) / 16) else m) else m) n 0) ≤ 255 := fun n hn => zfold_ind (fun (n : Nat) (m : Int) => 0 ≤ m ∧ m ≤ 255) n (by omega) (fun a b ha hb => by
      split
      · rename_i u; have := (hrg a (by omega)).2.2 u; have := hq.d this.1 this.2; split <;> omega
      · exact hb)
    refine zloop (n := 192) (L := fun n => zW G M_X11_region (mQ C (sp_region A p t i what)) 85 [some (.ref C), some (vi p), some (vi t), some (vi i), some (vi what), some (vi (zfold (fun (k : Nat) (m : Int) => if σs (C + 20) k = i then (if m = -1 then (k : Int) else m) else m) n (-1))), some (vi (zfold (fun (k : Nat) (m : Int) => if σs (C + 20) k = i then m + 1 else m) n 0)), some (vi (zfold (fun (k : Nat) (m : Int) => if σs (C + 20) k = i then (if (A.1 p.toNat).2.2 ((k : Int) % 16) ((k : Int) / 16) < m then (A.1 p.toNat).2.2 ((k : Int) % 16) ((k : Int) / 16) else m) else m) n 255)), some (vi (zfold (fun (k : Nat) (m : Int) => if σs (C + 20) k = i then (if m < (A.1 p.toNat).2.2 ((k : Int) % 16) ((k : Int) / 16) then (A.1 p.toNat).2.2 ((k : Int) % 16) ((k : Int) / 16) else m) else m) n 0)), some (vi n), none] [] (zmS C, σs, τ)) ?_ ?_
    · have r0 := rF 192 (by omega)
      rw [e1] at r0
      rw [e1, e2, e3, e4]
      refine zw_iload 87 rfl dX11_region_85 rfl ?_
      refine zw_sipush 90 rfl dX11_region_87 rfl ?_
      refine zw_icmp_ge 180 93 rfl dX11_region_90 (by decide) (by omega) (by omega) (fun h_90 => ?_) (fun h_90 => ?_)
      · refine zw_aload_n 181 rfl dX11_region_180 rfl ?_
        refine zw_iload 183 rfl dX11_region_181 rfl ?_
        refine zw_if_ne 194 186 rfl dX11_region_183 (by decide) (by omega) (fun h_183 => ?_) (fun h_183 => ?_)
        · refine zw_iload 196 rfl dX11_region_194 rfl ?_
          refine zw_iconst 197 rfl dX11_region_196 ?_
          refine zw_icmp_ne 208 200 rfl dX11_region_197 (by decide) (by omega) (by omega) (fun h_197 => ?_) (fun h_197 => ?_)
          · refine zw_iload 210 rfl dX11_region_208 rfl ?_
            refine zw_iconst 211 rfl dX11_region_210 ?_
            refine zw_icmp_ne 219 214 rfl dX11_region_211 (by decide) (by omega) (by omega) (fun h_211 => ?_) (fun h_211 => ?_)
            · refine zw_iload 221 rfl dX11_region_219 rfl ?_
              refine zw_iconst 222 rfl dX11_region_221 ?_
              refine zw_icmp_ne 230 225 rfl dX11_region_222 (by decide) (by omega) (by omega) (fun h_222 => ?_) (fun h_222 => ?_)
              · refine zw_iload 232 rfl dX11_region_230 rfl ?_
                refine zw_cVi1 235 rfl dX11_region_232 kX11_region_157 (Nat.le_of_ble_eq_true rfl) (by first | assumption | exact zm_o0 | exact zm_o _ _ _ rfl) m_good ?_
                exact zw_iret (st := []) dX11_region_235 rfl (mRead h (mThrown.tr (mSc2.rgn hm.1).s) mScT.rf (by rw [if_pos hc1, if_pos hc2, if_pos hc3, if_pos hc4]) (by show _ = rTell _ _ _ _; unfold rTell; first | (rw [if_pos h_183, hf.2.1]; done) | (rw [if_neg h_183, if_pos h_197, hf.2.2]; done) | (rw [if_neg h_183, if_neg h_197, if_pos h_211]; done) | (rw [if_neg h_183, if_neg h_197, if_neg h_211, if_pos h_222]; done) | (rw [if_neg h_183, if_neg h_197, if_neg h_211, if_neg h_222]; done)) rfl)
              · refine zw_iload 227 rfl dX11_region_225 rfl ?_
                refine zw_goto 232 dX11_region_227 (by decide) ?_
                refine zw_cVi1 235 rfl dX11_region_232 kX11_region_157 (Nat.le_of_ble_eq_true rfl) (by first | assumption | exact zm_o0 | exact zm_o _ _ _ rfl) m_good ?_
                exact zw_iret (st := []) dX11_region_235 rfl (mRead h (mThrown.tr (mSc2.rgn hm.1).s) mScT.rf (by rw [if_pos hc1, if_pos hc2, if_pos hc3, if_pos hc4]) (by show _ = rTell _ _ _ _; unfold rTell; first | (rw [if_pos h_183, hf.2.1]; done) | (rw [if_neg h_183, if_pos h_197, hf.2.2]; done) | (rw [if_neg h_183, if_neg h_197, if_pos h_211]; done) | (rw [if_neg h_183, if_neg h_197, if_neg h_211, if_pos h_222]; done) | (rw [if_neg h_183, if_neg h_197, if_neg h_211, if_neg h_222]; done)) rfl)
            · refine zw_iload 216 rfl dX11_region_214 rfl ?_
              refine zw_goto 232 dX11_region_216 (by decide) ?_
              refine zw_cVi1 235 rfl dX11_region_232 kX11_region_157 (Nat.le_of_ble_eq_true rfl) (by first | assumption | exact zm_o0 | exact zm_o _ _ _ rfl) m_good ?_
              exact zw_iret (st := []) dX11_region_235 rfl (mRead h (mThrown.tr (mSc2.rgn hm.1).s) mScT.rf (by rw [if_pos hc1, if_pos hc2, if_pos hc3, if_pos hc4]) (by show _ = rTell _ _ _ _; unfold rTell; first | (rw [if_pos h_183, hf.2.1]; done) | (rw [if_neg h_183, if_pos h_197, hf.2.2]; done) | (rw [if_neg h_183, if_neg h_197, if_pos h_211]; done) | (rw [if_neg h_183, if_neg h_197, if_neg h_211, if_pos h_222]; done) | (rw [if_neg h_183, if_neg h_197, if_neg h_211, if_neg h_222]; done)) rfl)
          · refine zw_iload 202 rfl dX11_region_200 rfl ?_
            refine zw_bipush 204 rfl dX11_region_202 rfl ?_
            refine zw_idiv 205 rfl dX11_region_204 (by omega) (by omega) ?_
            refine zw_goto 232 dX11_region_205 (by decide) ?_
            refine zw_cVi1 235 rfl dX11_region_232 kX11_region_157 (Nat.le_of_ble_eq_true rfl) (by first | assumption | exact zm_o0 | exact zm_o _ _ _ rfl) m_good ?_
            exact zw_iret (st := []) dX11_region_235 rfl (mRead h (mThrown.tr (mSc2.rgn hm.1).s) mScT.rf (by rw [if_pos hc1, if_pos hc2, if_pos hc3, if_pos hc4]) (by show _ = rTell _ _ _ _; unfold rTell; first | (rw [if_pos h_183, hf.2.1]; done) | (rw [if_neg h_183, if_pos h_197, hf.2.2]; done) | (rw [if_neg h_183, if_neg h_197, if_pos h_211]; done) | (rw [if_neg h_183, if_neg h_197, if_neg h_211, if_pos h_222]; done) | (rw [if_neg h_183, if_neg h_197, if_neg h_211, if_neg h_222]; done)) rfl)
        · refine zw_iload 188 rfl dX11_region_186 rfl ?_
          refine zw_bipush 190 rfl dX11_region_188 rfl ?_
          refine zw_irem 191 rfl dX11_region_190 (by omega) (by omega) ?_
          refine zw_goto 232 dX11_region_191 (by decide) ?_
          refine zw_cVi1 235 rfl dX11_region_232 kX11_region_157 (Nat.le_of_ble_eq_true rfl) (by first | assumption | exact zm_o0 | exact zm_o _ _ _ rfl) m_good ?_
          exact zw_iret (st := []) dX11_region_235 rfl (mRead h (mThrown.tr (mSc2.rgn hm.1).s) mScT.rf (by rw [if_pos hc1, if_pos hc2, if_pos hc3, if_pos hc4]) (by show _ = rTell _ _ _ _; unfold rTell; first | (rw [if_pos h_183, hf.2.1]; done) | (rw [if_neg h_183, if_pos h_197, hf.2.2]; done) | (rw [if_neg h_183, if_neg h_197, if_pos h_211]; done) | (rw [if_neg h_183, if_neg h_197, if_neg h_211, if_pos h_222]; done) | (rw [if_neg h_183, if_neg h_197, if_neg h_211, if_neg h_222]; done)) rfl)
      · exfalso; omega
    · intro n hn ih
      have r0 := rF n (by omega)
      have r1 := rL n (by omega)
      have r2 := rM n (by omega)
      have r3 := hrg n hn
      have s1 : (zfold (fun (k : Nat) (m : Int) => if σs (C + 20) k = i then (if m = -1 then (k : Int) else m) else m) (n + 1) (-1)) = if σs (C + 20) n = i then (if (zfold (fun (k : Nat) (m : Int) => if σs (C + 20) k = i then (if m = -1 then (k : Int) else m) else m) n (-1)) = -1 then (n : Int) else (zfold (fun (k : Nat) (m : Int) => if σs (C + 20) k = i then (if m = -1 then (k : Int) else m) else m) n (-1))) else (zfold (fun (k : Nat) (m : Int) => if σs (C + 20) k = i then (if m = -1 then (k : Int) else m) else m) n (-1)) := rfl
      have s2 : (zfold (fun (k : Nat) (m : Int) => if σs (C + 20) k = i then m + 1 else m) (n + 1) 0) = if σs (C + 20) n = i then (zfold (fun (k : Nat) (m : Int) => if σs (C + 20) k = i then m + 1 else m) n 0) + 1 else (zfold (fun (k : Nat) (m : Int) => if σs (C + 20) k = i then m + 1 else m) n 0) := rfl
      have s3 : (zfold (fun (k : Nat) (m : Int) => if σs (C + 20) k = i then (if (A.1 p.toNat).2.2 ((k : Int) % 16) ((k : Int) / 16) < m then (A.1 p.toNat).2.2 ((k : Int) % 16) ((k : Int) / 16) else m) else m) (n + 1) 255) = if σs (C + 20) n = i then (if (A.1 p.toNat).2.2 ((n : Int) % 16) ((n : Int) / 16) < (zfold (fun (k : Nat) (m : Int) => if σs (C + 20) k = i then (if (A.1 p.toNat).2.2 ((k : Int) % 16) ((k : Int) / 16) < m then (A.1 p.toNat).2.2 ((k : Int) % 16) ((k : Int) / 16) else m) else m) n 255) then (A.1 p.toNat).2.2 ((n : Int) % 16) ((n : Int) / 16) else (zfold (fun (k : Nat) (m : Int) => if σs (C + 20) k = i then (if (A.1 p.toNat).2.2 ((k : Int) % 16) ((k : Int) / 16) < m then (A.1 p.toNat).2.2 ((k : Int) % 16) ((k : Int) / 16) else m) else m) n 255)) else (zfold (fun (k : Nat) (m : Int) => if σs (C + 20) k = i then (if (A.1 p.toNat).2.2 ((k : Int) % 16) ((k : Int) / 16) < m then (A.1 p.toNat).2.2 ((k : Int) % 16) ((k : Int) / 16) else m) else m) n 255) := rfl
      have s4 : (zfold (fun (k : Nat) (m : Int) => if σs (C + 20) k = i then (if m < (A.1 p.toNat).2.2 ((k : Int) % 16) ((k : Int) / 16) then (A.1 p.toNat).2.2 ((k : Int) % 16) ((k : Int) / 16) else m) else m) (n + 1) 0) = if σs (C + 20) n = i then (if (zfold (fun (k : Nat) (m : Int) => if σs (C + 20) k = i then (if m < (A.1 p.toNat).2.2 ((k : Int) % 16) ((k : Int) / 16) then (A.1 p.toNat).2.2 ((k : Int) % 16) ((k : Int) / 16) else m) else m) n 0) < (A.1 p.toNat).2.2 ((n : Int) % 16) ((n : Int) / 16) then (A.1 p.toNat).2.2 ((n : Int) % 16) ((n : Int) / 16) else (zfold (fun (k : Nat) (m : Int) => if σs (C + 20) k = i then (if m < (A.1 p.toNat).2.2 ((k : Int) % 16) ((k : Int) / 16) then (A.1 p.toNat).2.2 ((k : Int) % 16) ((k : Int) / 16) else m) else m) n 0)) else (zfold (fun (k : Nat) (m : Int) => if σs (C + 20) k = i then (if m < (A.1 p.toNat).2.2 ((k : Int) % 16) ((k : Int) / 16) then (A.1 p.toNat).2.2 ((k : Int) % 16) ((k : Int) / 16) else m) else m) n 0) := rfl
      rw [s1, s2, s3, s4] at ih
      generalize (zfold (fun (k : Nat) (m : Int) => if σs (C + 20) k = i then (if m = -1 then (k : Int) else m) else m) n (-1)) = a1 at *
      generalize (zfold (fun (k : Nat) (m : Int) => if σs (C + 20) k = i then m + 1 else m) n 0) = a2 at *
      generalize (zfold (fun (k : Nat) (m : Int) => if σs (C + 20) k = i then (if (A.1 p.toNat).2.2 ((k : Int) % 16) ((k : Int) / 16) < m then (A.1 p.toNat).2.2 ((k : Int) % 16) ((k : Int) / 16) else m) else m) n 255) = a3 at *
      generalize (zfold (fun (k : Nat) (m : Int) => if σs (C + 20) k = i then (if m < (A.1 p.toNat).2.2 ((k : Int) % 16) ((k : Int) / 16) then (A.1 p.toNat).2.2 ((k : Int) % 16) ((k : Int) / 16) else m) else m) n 0) = a4 at *
      refine zw_iload 87 rfl dX11_region_85 rfl ?_
      refine zw_sipush 90 rfl dX11_region_87 rfl ?_
      refine zw_icmp_ge 180 93 rfl dX11_region_90 (by decide) (by omega) (by omega) (fun h_90 => ?_) (fun h_90 => ?_)
      · exfalso; omega
      · refine zw_aload_n 94 rfl dX11_region_93 rfl ?_
        refine zw_getr 97 rfl dX11_region_94 fl_X11_73 (by first | assumption | exact zm_o0 | exact zm_o _ _ _ rfl) (by first | assumption | exact zm_f _ _ rfl) ?_
        refine zw_iload 99 rfl dX11_region_97 rfl ?_
        refine zw_iald 100 rfl dX11_region_99 (by first | assumption | exact zm_o0 | exact zm_o _ _ _ rfl) (by omega) (by omega) ?_
        rw [Int.toNat_natCast]
        refine zw_iload_n 101 rfl dX11_region_100 rfl ?_
        refine zw_icmp_eq 107 104 rfl dX11_region_101 (by decide) (by omega) (by omega) (fun h_101 => ?_) (fun h_101 => ?_)
        · have hin := r3.2.2 h_101
          have hd := hq.d hin.1 hin.2
          refine zw_aload_n 108 rfl dX11_region_107 rfl ?_
          refine zw_iload_n 109 rfl dX11_region_108 rfl ?_
          refine zw_iload 111 rfl dX11_region_109 rfl ?_
          refine zw_bipush 113 rfl dX11_region_111 rfl ?_
          refine zw_irem 114 rfl dX11_region_113 (by omega) (by omega) ?_
          refine zw_iload 116 rfl dX11_region_114 rfl ?_
          refine zw_bipush 118 rfl dX11_region_116 rfl ?_
          refine zw_idiv 119 rfl dX11_region_118 (by omega) (by omega) ?_
          refine zw_cVi3 122 rfl dX11_region_119 kX11_region_182 (Nat.le_of_ble_eq_true rfl) (by first | assumption | exact zm_o0 | exact zm_o _ _ _ rfl) (m_dotP hq hin.1 hin.2) ?_
          refine zw_istore 124 rfl dX11_region_122 (Nat.le_of_ble_eq_true rfl) rfl ?_
          refine zw_iload 126 rfl dX11_region_124 rfl ?_
          refine zw_iconst 127 rfl dX11_region_126 ?_
          refine zw_icmp_ne 135 130 rfl dX11_region_127 (by decide) (by omega) (by omega) (fun h_127 => ?_) (fun h_127 => ?_)
          · refine zw_iload 137 rfl dX11_region_135 rfl ?_
            refine zw_istore 139 rfl dX11_region_137 (Nat.le_of_ble_eq_true rfl) rfl ?_
            refine zw_iinc 142 rfl dX11_region_139 (Nat.le_of_ble_eq_true rfl) rfl rfl ?_
            refine zw_iload 144 rfl dX11_region_142 rfl ?_
            refine zw_iload 146 rfl dX11_region_144 rfl ?_
            refine zw_icmp_ge 154 149 rfl dX11_region_146 (by decide) (by omega) (by omega) (fun h_146 => ?_) (fun h_146 => ?_)
            · refine zw_iload 156 rfl dX11_region_154 rfl ?_
              refine zw_istore 158 rfl dX11_region_156 (Nat.le_of_ble_eq_true rfl) rfl ?_
              refine zw_iload 160 rfl dX11_region_158 rfl ?_
              refine zw_iload 162 rfl dX11_region_160 rfl ?_
              refine zw_icmp_le 170 165 rfl dX11_region_162 (by decide) (by omega) (by omega) (fun h_162 => ?_) (fun h_162 => ?_)
              · refine zw_iload 172 rfl dX11_region_170 rfl ?_
                refine zw_istore 174 rfl dX11_region_172 (Nat.le_of_ble_eq_true rfl) rfl ?_
                refine zw_iinc 177 rfl dX11_region_174 (Nat.le_of_ble_eq_true rfl) rfl rfl ?_
                refine zw_goto 85 dX11_region_177 (by decide) ?_
                first
                | (rw [if_neg h_101, if_neg h_101, if_neg h_101, if_neg h_101] at ih; exact ih)
                | (refine zw_drop 10 ?_
                   rw [if_pos h_101, if_pos h_101, if_pos h_101, if_pos h_101] at ih
                   first | (rw [if_pos h_127] at ih) | (rw [if_neg h_127] at ih)
                   first | (rw [if_pos (show (A.1 p.toNat).2.2 ((n : Int) % 16) ((n : Int) / 16) < a3 by omega)] at ih) | (rw [if_neg (show ¬ (A.1 p.toNat).2.2 ((n : Int) % 16) ((n : Int) / 16) < a3 by omega)] at ih)
                   first | (rw [if_pos (show a4 < (A.1 p.toNat).2.2 ((n : Int) % 16) ((n : Int) / 16) by omega)] at ih; exact ih) | (rw [if_neg (show ¬ a4 < (A.1 p.toNat).2.2 ((n : Int) % 16) ((n : Int) / 16) by omega)] at ih; exact ih))
              · refine zw_iload 167 rfl dX11_region_165 rfl ?_
                refine zw_goto 172 dX11_region_167 (by decide) ?_
                refine zw_istore 174 rfl dX11_region_172 (Nat.le_of_ble_eq_true rfl) rfl ?_
                refine zw_iinc 177 rfl dX11_region_174 (Nat.le_of_ble_eq_true rfl) rfl rfl ?_
                refine zw_goto 85 dX11_region_177 (by decide) ?_
                first
                | (rw [if_neg h_101, if_neg h_101, if_neg h_101, if_neg h_101] at ih; exact ih)
                | (refine zw_drop 10 ?_
                   rw [if_pos h_101, if_pos h_101, if_pos h_101, if_pos h_101] at ih
                   first | (rw [if_pos h_127] at ih) | (rw [if_neg h_127] at ih)
                   first | (rw [if_pos (show (A.1 p.toNat).2.2 ((n : Int) % 16) ((n : Int) / 16) < a3 by omega)] at ih) | (rw [if_neg (show ¬ (A.1 p.toNat).2.2 ((n : Int) % 16) ((n : Int) / 16) < a3 by omega)] at ih)
                   first | (rw [if_pos (show a4 < (A.1 p.toNat).2.2 ((n : Int) % 16) ((n : Int) / 16) by omega)] at ih; exact ih) | (rw [if_neg (show ¬ a4 < (A.1 p.toNat).2.2 ((n : Int) % 16) ((n : Int) / 16) by omega)] at ih; exact ih))
            · refine zw_iload 151 rfl dX11_region_149 rfl ?_
              refine zw_goto 156 dX11_region_151 (by decide) ?_
              refine zw_istore 158 rfl dX11_region_156 (Nat.le_of_ble_eq_true rfl) rfl ?_
              refine zw_iload 160 rfl dX11_region_158 rfl ?_
              refine zw_iload 162 rfl dX11_region_160 rfl ?_
              refine zw_icmp_le 170 165 rfl dX11_region_162 (by decide) (by omega) (by omega) (fun h_162 => ?_) (fun h_162 => ?_)
              · refine zw_iload 172 rfl dX11_region_170 rfl ?_
                refine zw_istore 174 rfl dX11_region_172 (Nat.le_of_ble_eq_true rfl) rfl ?_
                refine zw_iinc 177 rfl dX11_region_174 (Nat.le_of_ble_eq_true rfl) rfl rfl ?_
                refine zw_goto 85 dX11_region_177 (by decide) ?_
                first
                | (rw [if_neg h_101, if_neg h_101, if_neg h_101, if_neg h_101] at ih; exact ih)
                | (refine zw_drop 10 ?_
                   rw [if_pos h_101, if_pos h_101, if_pos h_101, if_pos h_101] at ih
                   first | (rw [if_pos h_127] at ih) | (rw [if_neg h_127] at ih)
                   first | (rw [if_pos (show (A.1 p.toNat).2.2 ((n : Int) % 16) ((n : Int) / 16) < a3 by omega)] at ih) | (rw [if_neg (show ¬ (A.1 p.toNat).2.2 ((n : Int) % 16) ((n : Int) / 16) < a3 by omega)] at ih)
                   first | (rw [if_pos (show a4 < (A.1 p.toNat).2.2 ((n : Int) % 16) ((n : Int) / 16) by omega)] at ih; exact ih) | (rw [if_neg (show ¬ a4 < (A.1 p.toNat).2.2 ((n : Int) % 16) ((n : Int) / 16) by omega)] at ih; exact ih))
              · refine zw_iload 167 rfl dX11_region_165 rfl ?_
                refine zw_goto 172 dX11_region_167 (by decide) ?_
                refine zw_istore 174 rfl dX11_region_172 (Nat.le_of_ble_eq_true rfl) rfl ?_
                refine zw_iinc 177 rfl dX11_region_174 (Nat.le_of_ble_eq_true rfl) rfl rfl ?_
                refine zw_goto 85 dX11_region_177 (by decide) ?_
                first
                | (rw [if_neg h_101, if_neg h_101, if_neg h_101, if_neg h_101] at ih; exact ih)
                | (refine zw_drop 10 ?_
                   rw [if_pos h_101, if_pos h_101, if_pos h_101, if_pos h_101] at ih
                   first | (rw [if_pos h_127] at ih) | (rw [if_neg h_127] at ih)
                   first | (rw [if_pos (show (A.1 p.toNat).2.2 ((n : Int) % 16) ((n : Int) / 16) < a3 by omega)] at ih) | (rw [if_neg (show ¬ (A.1 p.toNat).2.2 ((n : Int) % 16) ((n : Int) / 16) < a3 by omega)] at ih)
                   first | (rw [if_pos (show a4 < (A.1 p.toNat).2.2 ((n : Int) % 16) ((n : Int) / 16) by omega)] at ih; exact ih) | (rw [if_neg (show ¬ a4 < (A.1 p.toNat).2.2 ((n : Int) % 16) ((n : Int) / 16) by omega)] at ih; exact ih))
          · refine zw_iload 132 rfl dX11_region_130 rfl ?_
            refine zw_goto 137 dX11_region_132 (by decide) ?_
            refine zw_istore 139 rfl dX11_region_137 (Nat.le_of_ble_eq_true rfl) rfl ?_
            refine zw_iinc 142 rfl dX11_region_139 (Nat.le_of_ble_eq_true rfl) rfl rfl ?_
            refine zw_iload 144 rfl dX11_region_142 rfl ?_
            refine zw_iload 146 rfl dX11_region_144 rfl ?_
            refine zw_icmp_ge 154 149 rfl dX11_region_146 (by decide) (by omega) (by omega) (fun h_146 => ?_) (fun h_146 => ?_)
            · refine zw_iload 156 rfl dX11_region_154 rfl ?_
              refine zw_istore 158 rfl dX11_region_156 (Nat.le_of_ble_eq_true rfl) rfl ?_
              refine zw_iload 160 rfl dX11_region_158 rfl ?_
              refine zw_iload 162 rfl dX11_region_160 rfl ?_
              refine zw_icmp_le 170 165 rfl dX11_region_162 (by decide) (by omega) (by omega) (fun h_162 => ?_) (fun h_162 => ?_)
              · refine zw_iload 172 rfl dX11_region_170 rfl ?_
                refine zw_istore 174 rfl dX11_region_172 (Nat.le_of_ble_eq_true rfl) rfl ?_
                refine zw_iinc 177 rfl dX11_region_174 (Nat.le_of_ble_eq_true rfl) rfl rfl ?_
                refine zw_goto 85 dX11_region_177 (by decide) ?_
                first
                | (rw [if_neg h_101, if_neg h_101, if_neg h_101, if_neg h_101] at ih; exact ih)
                | (refine zw_drop 10 ?_
                   rw [if_pos h_101, if_pos h_101, if_pos h_101, if_pos h_101] at ih
                   first | (rw [if_pos h_127] at ih) | (rw [if_neg h_127] at ih)
                   first | (rw [if_pos (show (A.1 p.toNat).2.2 ((n : Int) % 16) ((n : Int) / 16) < a3 by omega)] at ih) | (rw [if_neg (show ¬ (A.1 p.toNat).2.2 ((n : Int) % 16) ((n : Int) / 16) < a3 by omega)] at ih)
                   first | (rw [if_pos (show a4 < (A.1 p.toNat).2.2 ((n : Int) % 16) ((n : Int) / 16) by omega)] at ih; exact ih) | (rw [if_neg (show ¬ a4 < (A.1 p.toNat).2.2 ((n : Int) % 16) ((n : Int) / 16) by omega)] at ih; exact ih))
              · refine zw_iload 167 rfl dX11_region_165 rfl ?_
                refine zw_goto 172 dX11_region_167 (by decide) ?_
                refine zw_istore 174 rfl dX11_region_172 (Nat.le_of_ble_eq_true rfl) rfl ?_
                refine zw_iinc 177 rfl dX11_region_174 (Nat.le_of_ble_eq_true rfl) rfl rfl ?_
                refine zw_goto 85 dX11_region_177 (by decide) ?_
                first
                | (rw [if_neg h_101, if_neg h_101, if_neg h_101, if_neg h_101] at ih; exact ih)
                | (refine zw_drop 10 ?_
                   rw [if_pos h_101, if_pos h_101, if_pos h_101, if_pos h_101] at ih
                   first | (rw [if_pos h_127] at ih) | (rw [if_neg h_127] at ih)
                   first | (rw [if_pos (show (A.1 p.toNat).2.2 ((n : Int) % 16) ((n : Int) / 16) < a3 by omega)] at ih) | (rw [if_neg (show ¬ (A.1 p.toNat).2.2 ((n : Int) % 16) ((n : Int) / 16) < a3 by omega)] at ih)
                   first | (rw [if_pos (show a4 < (A.1 p.toNat).2.2 ((n : Int) % 16) ((n : Int) / 16) by omega)] at ih; exact ih) | (rw [if_neg (show ¬ a4 < (A.1 p.toNat).2.2 ((n : Int) % 16) ((n : Int) / 16) by omega)] at ih; exact ih))
            · refine zw_iload 151 rfl dX11_region_149 rfl ?_
              refine zw_goto 156 dX11_region_151 (by decide) ?_
              refine zw_istore 158 rfl dX11_region_156 (Nat.le_of_ble_eq_true rfl) rfl ?_
              refine zw_iload 160 rfl dX11_region_158 rfl ?_
              refine zw_iload 162 rfl dX11_region_160 rfl ?_
              refine zw_icmp_le 170 165 rfl dX11_region_162 (by decide) (by omega) (by omega) (fun h_162 => ?_) (fun h_162 => ?_)
              · refine zw_iload 172 rfl dX11_region_170 rfl ?_
                refine zw_istore 174 rfl dX11_region_172 (Nat.le_of_ble_eq_true rfl) rfl ?_
                refine zw_iinc 177 rfl dX11_region_174 (Nat.le_of_ble_eq_true rfl) rfl rfl ?_
                refine zw_goto 85 dX11_region_177 (by decide) ?_
                first
                | (rw [if_neg h_101, if_neg h_101, if_neg h_101, if_neg h_101] at ih; exact ih)
                | (refine zw_drop 10 ?_
                   rw [if_pos h_101, if_pos h_101, if_pos h_101, if_pos h_101] at ih
                   first | (rw [if_pos h_127] at ih) | (rw [if_neg h_127] at ih)
                   first | (rw [if_pos (show (A.1 p.toNat).2.2 ((n : Int) % 16) ((n : Int) / 16) < a3 by omega)] at ih) | (rw [if_neg (show ¬ (A.1 p.toNat).2.2 ((n : Int) % 16) ((n : Int) / 16) < a3 by omega)] at ih)
                   first | (rw [if_pos (show a4 < (A.1 p.toNat).2.2 ((n : Int) % 16) ((n : Int) / 16) by omega)] at ih; exact ih) | (rw [if_neg (show ¬ a4 < (A.1 p.toNat).2.2 ((n : Int) % 16) ((n : Int) / 16) by omega)] at ih; exact ih))
              · refine zw_iload 167 rfl dX11_region_165 rfl ?_
                refine zw_goto 172 dX11_region_167 (by decide) ?_
                refine zw_istore 174 rfl dX11_region_172 (Nat.le_of_ble_eq_true rfl) rfl ?_
                refine zw_iinc 177 rfl dX11_region_174 (Nat.le_of_ble_eq_true rfl) rfl rfl ?_
                refine zw_goto 85 dX11_region_177 (by decide) ?_
                first
                | (rw [if_neg h_101, if_neg h_101, if_neg h_101, if_neg h_101] at ih; exact ih)
                | (refine zw_drop 10 ?_
                   rw [if_pos h_101, if_pos h_101, if_pos h_101, if_pos h_101] at ih
                   first | (rw [if_pos h_127] at ih) | (rw [if_neg h_127] at ih)
                   first | (rw [if_pos (show (A.1 p.toNat).2.2 ((n : Int) % 16) ((n : Int) / 16) < a3 by omega)] at ih) | (rw [if_neg (show ¬ (A.1 p.toNat).2.2 ((n : Int) % 16) ((n : Int) / 16) < a3 by omega)] at ih)
                   first | (rw [if_pos (show a4 < (A.1 p.toNat).2.2 ((n : Int) % 16) ((n : Int) / 16) by omega)] at ih; exact ih) | (rw [if_neg (show ¬ a4 < (A.1 p.toNat).2.2 ((n : Int) % 16) ((n : Int) / 16) by omega)] at ih; exact ih))
        · refine zw_goto 174 dX11_region_104 (by decide) ?_
          refine zw_iinc 177 rfl dX11_region_174 (Nat.le_of_ble_eq_true rfl) rfl rfl ?_
          refine zw_goto 85 dX11_region_177 (by decide) ?_
          first
          | (rw [if_neg h_101, if_neg h_101, if_neg h_101, if_neg h_101] at ih; exact ih)
          | (refine zw_drop 10 ?_
             rw [if_pos h_101, if_pos h_101, if_pos h_101, if_pos h_101] at ih
             first | (rw [if_pos h_127] at ih) | (rw [if_neg h_127] at ih)
             first | (rw [if_pos (show (A.1 p.toNat).2.2 ((n : Int) % 16) ((n : Int) / 16) < a3 by omega)] at ih) | (rw [if_neg (show ¬ (A.1 p.toNat).2.2 ((n : Int) % 16) ((n : Int) / 16) < a3 by omega)] at ih)
             first | (rw [if_pos (show a4 < (A.1 p.toNat).2.2 ((n : Int) % 16) ((n : Int) / 16) by omega)] at ih; exact ih) | (rw [if_neg (show ¬ a4 < (A.1 p.toNat).2.2 ((n : Int) % 16) ((n : Int) / 16) by omega)] at ih; exact ih))
  refine zw_aload_n 1 rfl dX11_region_0 rfl ?_
  refine zw_iconst 2 rfl dX11_region_1 ?_
  refine zw_puti 5 rfl dX11_region_2 fp_X11_85 (by first | assumption | exact zm_o0 | exact zm_o _ _ _ rfl) ?_
  refine zw_aload_n 6 rfl dX11_region_5 rfl ?_
  refine zw_iload_n 7 rfl dX11_region_6 rfl ?_
  refine zw_cVi1 10 rfl dX11_region_7 kX11_region_173 (Nat.le_of_ble_eq_true rfl) (by first | assumption | exact zm_o0 | exact zm_o _ _ _ rfl) (m_isPicture hP hp) ?_
  refine zw_if_eqB 23 13 rfl dX11_region_10 (by decide) (fun h_10 => ?_) (fun h_10 => ?_)
  · refine zw_aload_n 24 rfl dX11_region_23 rfl ?_
    refine zw_iconst 25 rfl dX11_region_24 ?_
    refine zw_cVi1 28 rfl dX11_region_25 kX11_region_147 (Nat.le_of_ble_eq_true rfl) (by first | assumption | exact zm_o0 | exact zm_o _ _ _ rfl) m_refused ?_
    exact zw_iret (st := []) dX11_region_28 rfl (mRef h mThrown mScT.rf (by simp only [if_neg h_10, if_true, if_false]) (by omega))
  · refine zw_iload 15 rfl dX11_region_13 rfl ?_
    refine zw_iconst 16 rfl dX11_region_15 ?_
    refine zw_iconst 17 rfl dX11_region_16 ?_
    refine zw_cSi3 20 rfl dX11_region_17 kX11_region_106 (Nat.le_of_ble_eq_true rfl) (m_in (by omega) (by omega) (by omega)) ?_
    refine zw_if_neB 29 23 rfl dX11_region_20 (by decide) (fun h_20 => ?_) (fun h_20 => ?_)
    · refine zw_iload_n 30 rfl dX11_region_29 rfl ?_
      refine zw_iconst 31 rfl dX11_region_30 ?_
      refine zw_sipush 34 rfl dX11_region_31 rfl ?_
      refine zw_cSi3 37 rfl dX11_region_34 kX11_region_106 (Nat.le_of_ble_eq_true rfl) (m_in (by omega) (by omega) (by omega)) ?_
      refine zw_if_neB 46 40 rfl dX11_region_37 (by decide) (fun h_37 => ?_) (fun h_37 => ?_)
      · refine zw_iload_n 47 rfl dX11_region_46 rfl ?_
        refine zw_iconst 48 rfl dX11_region_47 ?_
        refine zw_aload_n 49 rfl dX11_region_48 rfl ?_
        refine zw_iload_n 50 rfl dX11_region_49 rfl ?_
        refine zw_iload_n 51 rfl dX11_region_50 rfl ?_
        refine zw_cVr2 54 rfl dX11_region_51 kX11_region_341 (Nat.le_of_ble_eq_true rfl) (by first | assumption | exact zm_o0 | exact zm_o _ _ _ rfl) (m_lays (hP.pc h_10) (by omega) h_37) ?_
        rintro _ _ ⟨rfl, σ3, rfl, hm⟩
        have hw := (hP.pc h_10).wh
        have hJ := rFind_J (p := A.1 p.toNat) (t := t) hw
        have hnn := zz_nn hw.1 hw.2
        have hJ1 := hJ.1
        refine zw_iconst 55 rfl dX11_region_54 ?_
        refine zw_isub 56 rfl dX11_region_55 ?_
        refine zw_cSi3 59 rfl dX11_region_56 kX11_region_106 (Nat.le_of_ble_eq_true rfl) (m_in (by omega) (by omega) (by omega)) ?_
        refine zw_if_neB 68 62 rfl dX11_region_59 (by decide) (fun h_59 => ?_) (fun h_59 => ?_)
        · refine zw_iconst 69 rfl dX11_region_68 ?_
          refine zw_istore 71 rfl dX11_region_69 (Nat.le_of_ble_eq_true rfl) rfl ?_
          refine zw_iconst 72 rfl dX11_region_71 ?_
          refine zw_istore 74 rfl dX11_region_72 (Nat.le_of_ble_eq_true rfl) rfl ?_
          refine zw_sipush 77 rfl dX11_region_74 rfl ?_
          refine zw_istore 79 rfl dX11_region_77 (Nat.le_of_ble_eq_true rfl) rfl ?_
          refine zw_iconst 80 rfl dX11_region_79 ?_
          refine zw_istore 82 rfl dX11_region_80 (Nat.le_of_ble_eq_true rfl) rfl ?_
          refine zw_iconst 83 rfl dX11_region_82 ?_
          refine zw_istore 85 rfl dX11_region_83 (Nat.le_of_ble_eq_true rfl) rfl ?_
          exact key h_10 h_20 h_37 h_59 σ3 hm
        · refine zw_aload_n 63 rfl dX11_region_62 rfl ?_
          refine zw_iconst 64 rfl dX11_region_63 ?_
          refine zw_cVi1 67 rfl dX11_region_64 kX11_region_147 (Nat.le_of_ble_eq_true rfl) (by first | assumption | exact zm_o0 | exact zm_o _ _ _ rfl) m_refused ?_
          exact zw_iret (st := []) dX11_region_67 rfl (mRef h (mThrown.tr (mSc2.rgn hm.1).s) mScT.rf (by rw [if_pos h_10, if_pos h_20, if_pos h_37, if_neg h_59]) (by omega))
      · refine zw_aload_n 41 rfl dX11_region_40 rfl ?_
        refine zw_iconst 42 rfl dX11_region_41 ?_
        refine zw_cVi1 45 rfl dX11_region_42 kX11_region_147 (Nat.le_of_ble_eq_true rfl) (by first | assumption | exact zm_o0 | exact zm_o _ _ _ rfl) m_refused ?_
        exact zw_iret (st := []) dX11_region_45 rfl (mRef h mThrown mScT.rf (by simp only [if_pos h_10, if_pos h_20, if_neg h_37, if_true, if_false]) (by omega))
    · refine zw_aload_n 24 rfl dX11_region_23 rfl ?_
      refine zw_iconst 25 rfl dX11_region_24 ?_
      refine zw_cVi1 28 rfl dX11_region_25 kX11_region_147 (Nat.le_of_ble_eq_true rfl) (by first | assumption | exact zm_o0 | exact zm_o _ _ _ rfl) m_refused ?_
      exact zw_iret (st := []) dX11_region_28 rfl (mRef h mThrown mScT.rf (by simp only [if_pos h_10, if_neg h_20, if_true, if_false]) (by omega))
