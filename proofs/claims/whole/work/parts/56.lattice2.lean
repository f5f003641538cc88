/-- a Lattice: its pictures, arrays -/
def zLat (S : zSh) (l : Nat) : Prop := zo S l 1 0 ∧ S.2.2 l 0 = some (l + 1) ∧ S.2.2 l 1 = some (l + 3) ∧ S.2.2 l 2 = some (l + 5) ∧ S.2.2 l 3 = some (l + 6) ∧ S.2.2 l 4 = some (l + 7) ∧ zPic S (l + 1) (l + 1 + 1) ∧ zPic S (l + 3) (l + 3 + 1) ∧ zo S (l + 5) 12 3 ∧ zo S (l + 6) 12 256 ∧ zo S (l + 7) 12 144
theorem zx_lat {B : Nat} : zLat (zxS B) (B + 47) := ⟨zx_o 47 1 0 rfl, zx_f 47 0 48 rfl, zx_f 47 1 50 rfl, zx_f 47 2 52 rfl, zx_f 47 3 53 rfl, zx_f 47 4 54 rfl, zx_pic 48 rfl rfl rfl, zx_pic 50 rfl rfl rfl, zx_o 52 12 3 rfl, zx_o 53 12 256 rfl, zx_o 54 12 144 rfl⟩
theorem zx_smo {B : Nat} : zLat (zxS B) (B + 57) := ⟨zx_o 57 1 0 rfl, zx_f 57 0 58 rfl, zx_f 57 1 60 rfl, zx_f 57 2 62 rfl, zx_f 57 3 63 rfl, zx_f 57 4 64 rfl, zx_pic 58 rfl rfl rfl, zx_pic 60 rfl rfl rfl, zx_o 62 12 3 rfl, zx_o 63 12 256 rfl, zx_o 64 12 144 rfl⟩
theorem c_isMade {G : zG} {S : zSh} {σ τ : zSt} {l : Nat} (hL : zLat S l) (hs : -2147483648 ≤ σ l 5 ∧ σ l 5 ≤ 2147483647) : zC G M_X1_isMade [.ref l] (S, σ, τ) (zR (some (vi (zb (0 < σ l 5)))) (S, σ, τ)) := by
  obtain ⟨ho, hf0, hf1, hf2, hf3, hf4, hp1, hp3, ho5, ho6, ho7⟩ := id hL
  refine zC_of 0 rfl (Nat.le_of_ble_eq_true rfl) ?_
  refine zw_aload_n 1 rfl dX1_isMade_0 rfl ?_
  refine zw_geti 4 rfl dX1_isMade_1 fl_X1_31 (by first | assumption | exact zx_o0 | exact zx_o _ _ _ rfl) ?_
  refine zw_if_le 11 7 rfl dX1_isMade_4 (by decide) (by omega) (fun h_4 => ?_) (fun h_4 => ?_)
  · refine zw_iconst 12 rfl dX1_isMade_11 ?_
    exact zw_zretR dX1_isMade_12 rfl (by omega) (by first | exact zb_t (by omega) | exact zb_f (by omega)) rfl
  · refine zw_iconst 8 rfl dX1_isMade_7 ?_
    refine zw_goto 12 dX1_isMade_8 (by decide) ?_
    exact zw_zretR dX1_isMade_12 rfl (by omega) (by first | exact zb_t (by omega) | exact zb_f (by omega)) rfl
theorem c_forgetL {G : zG} {S : zSh} {σ τ : zSt} {l : Nat} (hL : zLat S l) : zC G M_X1_forget [.ref l] (S, σ, τ) (zR none (S, zu σ l 5 0, τ)) := by
  obtain ⟨ho, hf0, hf1, hf2, hf3, hf4, hp1, hp3, ho5, ho6, ho7⟩ := id hL
  refine zC_of 0 rfl (Nat.le_of_ble_eq_true rfl) ?_
  refine zw_aload_n 1 rfl dX1_forget_0 rfl ?_
  refine zw_iconst 2 rfl dX1_forget_1 ?_
  refine zw_puti 5 rfl dX1_forget_2 fp_X1_31 (by first | assumption | exact zx_o0 | exact zx_o _ _ _ rfl) ?_
  exact zw_vretR dX1_forget_5 rfl rfl
theorem c_blursAlong {G : zG} {S : zSh} {σ τ : zSt} {l : Nat} {y : Int} (hL : zLat S l) (hy : 0 ≤ y ∧ y ≤ 2) : zC G M_X1_blursAlong [.ref l, vi y] (S, σ, τ) (zR (some (vi (σ (l + 5) y.toNat))) (S, σ, τ)) := by
  obtain ⟨ho, hf0, hf1, hf2, hf3, hf4, hp1, hp3, ho5, ho6, ho7⟩ := id hL
  refine zC_of 0 rfl (Nat.le_of_ble_eq_true rfl) ?_
  refine zw_iload_n 1 rfl dX1_blursAlong_0 rfl ?_
  refine zw_iconst 2 rfl dX1_blursAlong_1 ?_
  refine zw_iconst 3 rfl dX1_blursAlong_2 ?_
  refine zw_cSi3 6 rfl dX1_blursAlong_3 kX1_blursAlong_51 (Nat.le_of_ble_eq_true rfl) (c_within (by omega) (by omega) (by omega)) ?_
  refine zw_if_eqB 18 9 rfl dX1_blursAlong_6 (by decide) (fun h_6 => ?_) (fun h_6 => ?_)
  · exact absurd hy h_6
  · refine zw_aload_n 10 rfl dX1_blursAlong_9 rfl ?_
    refine zw_getr 13 rfl dX1_blursAlong_10 fl_X1_21 (by first | assumption | exact zx_o0 | exact zx_o _ _ _ rfl) (by first | assumption | exact zx_f0 _ _ rfl | exact zx_f _ _ _ rfl) ?_
    refine zw_iload_n 14 rfl dX1_blursAlong_13 rfl ?_
    refine zw_iald 15 rfl dX1_blursAlong_14 (by first | assumption | exact zx_o0 | exact zx_o _ _ _ rfl) (by omega) (by omega) ?_
    refine zw_goto 19 dX1_blursAlong_15 (by decide) ?_
    exact zw_iretR dX1_blursAlong_19 rfl rfl rfl
theorem c_hasDotL {G : zG} {S : zSh} {σ τ : zSt} {l : Nat} {g : zGr} {x y : Int} (hL : zLat S l) (hg : xrL σ l g) (hx : -2147483648 ≤ x ∧ x ≤ 2147483647) (hy : -2147483648 ≤ y ∧ y ≤ 2147483647) : zC G M_X1_hasDot [.ref l, vi x, vi y] (S, σ, τ) (zR (some (vi (zb (aIn g.1 x y)))) (S, σ, τ)) := by
  obtain ⟨ho, hf0, hf1, hf2, hf3, hf4, hp1, hp3, ho5, ho6, ho7⟩ := id hL
  obtain ⟨hk, hP, hP2, hs, hr, hb0, hb1, hb2, hA, hD⟩ := id hg
  unfold zGok at hk
  have hwh := hP.wh (by omega)
  refine zC_of 0 rfl (Nat.le_of_ble_eq_true rfl) ?_
  refine zw_aload_n 1 rfl dX1_hasDot_0 rfl ?_
  refine zw_cVi0 4 rfl dX1_hasDot_1 kX1_hasDot_55 (Nat.le_of_ble_eq_true rfl) (by first | assumption | exact zx_o0 | exact zx_o _ _ _ rfl) (c_isMade hL (by omega)) ?_
  refine zw_if_eqB 23 7 rfl dX1_hasDot_4 (by decide) (fun h_4 => ?_) (fun h_4 => ?_)
  · first | (exfalso; omega) | exact zw_iconst 24 rfl dX1_hasDot_23 (zw_zretR dX1_hasDot_24 rfl (by omega) (zb_f (fun q => h_16 (by rw [zHas, hwh.1.1, hwh.1.2]; exact q))) rfl)
  · refine zw_aload_n 8 rfl dX1_hasDot_7 rfl ?_
    refine zw_getr 11 rfl dX1_hasDot_8 fl_X1_12 (by first | assumption | exact zx_o0 | exact zx_o _ _ _ rfl) (by first | assumption | exact zx_f0 _ _ rfl | exact zx_f _ _ _ rfl) ?_
    refine zw_iload_n 12 rfl dX1_hasDot_11 rfl ?_
    refine zw_iload_n 13 rfl dX1_hasDot_12 rfl ?_
    refine zw_cVi2 16 rfl dX1_hasDot_13 kX1_hasDot_59 (Nat.le_of_ble_eq_true rfl) hp1.1 (c_contains hp1 hP.1 hx hy) ?_
    refine zw_if_eqB 23 19 rfl dX1_hasDot_16 (by decide) (fun h_16 => ?_) (fun h_16 => ?_)
    · first | (exfalso; omega) | exact zw_iconst 24 rfl dX1_hasDot_23 (zw_zretR dX1_hasDot_24 rfl (by omega) (zb_f (fun q => h_16 (by rw [zHas, hwh.1.1, hwh.1.2]; exact q))) rfl)
    · refine zw_iconst 20 rfl dX1_hasDot_19 ?_
      refine zw_goto 24 dX1_hasDot_20 (by decide) ?_
      exact zw_zretR dX1_hasDot_24 rfl (by omega) (by rw [zHas, hwh.1.1, hwh.1.2] at h_16; exact zb_t h_16) rfl
def xBA (l : Nat) (g : zGr) (σ : zSt) : Prop := ∀ x u : Int, 0 ≤ x ∧ x < g.1.1 → 0 ≤ u ∧ u < g.1.1 → σ (l + 6) (x * 16 + u).toNat = zbond x u g.2.2.1 g.2.2.2.2.1
def xBD (l : Nat) (g : zGr) (σ : zSt) : Prop := ∀ y v : Int, 0 ≤ y ∧ y < g.1.2.1 → 0 ≤ v ∧ v < g.1.2.1 → σ (l + 7) (y * 12 + v).toNat = zbond y v g.2.2.1 g.2.2.2.2.2.1
theorem c_bindPlaces {G : zG} {S : zSh} {σ τ : zSt} {l : Nat} {g : zGr} (hL : zLat S l) (hk : zGok g) (hP : xrPic σ (l + 1) g.1) (hs : σ l 5 = g.2.2.1) (hb0 : σ (l + 5) 0 = g.2.2.2.2.1) (hb1 : σ (l + 5) 1 = g.2.2.2.2.2.1) : zC G M_X1_bindPlaces [.ref l] (S, σ, τ) (fun r w => r = none ∧ ∃ σ' : zSt, w = (S, σ', τ) ∧ (∀ b, b ≠ l + 6 → b ≠ l + 7 → σ' b = σ b) ∧ xBA l g σ' ∧ xBD l g σ') := by
  obtain ⟨ho, hf0, hf1, hf2, hf3, hf4, hp1, hp3, ho5, ho6, ho7⟩ := id hL
  have ho1 := hp1.1
  have ho3 := hp3.1
  unfold zGok at hk
  have hwq : ∀ σs : zSt, (∀ b, b ≠ l + 6 → b ≠ l + 7 → σs b = σ b) → σs (l + 1) 1 = g.1.1 ∧ σs (l + 1) 2 = g.1.2.1 := fun σs q => by
    have := (hP.wh (by omega)).1
    rw [q _ (by omega) (by omega)]; exact this
  refine zC_of 2 rfl (Nat.le_of_ble_eq_true rfl) ?_
  have outer66 : ∀ (fu x : Nat) (σs : zSt), (x : Int) ≤ g.1.2.1 → g.1.2.1 - x < fu → ((∀ b, b ≠ l + 6 → b ≠ l + 7 → σs b = σ b) ∧ xBA l g σs) → (∀ x' u' : Nat, x' < x → (u' : Int) < g.1.2.1 → σs (l + 7) (x' * 12 + u') = zbond x' u' g.2.2.1 g.2.2.2.2.2.1) → zW G M_X1_bindPlaces (fun r w => r = none ∧ ∃ σ' : zSt, w = (S, σ', τ) ∧ (∀ b, b ≠ l + 6 → b ≠ l + 7 → σ' b = σ b) ∧ xBA l g σ' ∧ xBD l g σ') 66 [some (.ref l), some (vi x), none] [] (S, σs, τ) := by
    intro fu
    induction fu with
    | zero => intro x σs h1 h2; omega
    | succ fu ih =>
      intro x σs h1 h2 hfr hbx
      have inner : ∀ (fm u : Nat) (σs : zSt), (x : Int) < g.1.2.1 → (u : Int) ≤ g.1.2.1 → g.1.2.1 - u < fm → ((∀ b, b ≠ l + 6 → b ≠ l + 7 → σs b = σ b) ∧ xBA l g σs) → (∀ x' u' : Nat, x' < x ∨ (x' = x ∧ u' < u) → (u' : Int) < g.1.2.1 → σs (l + 7) (x' * 12 + u') = zbond x' u' g.2.2.1 g.2.2.2.2.2.1) → zW G M_X1_bindPlaces (fun r w => r = none ∧ ∃ σ' : zSt, w = (S, σ', τ) ∧ (∀ b, b ≠ l + 6 → b ≠ l + 7 → σ' b = σ b) ∧ xBA l g σ' ∧ xBD l g σ') 79 [some (.ref l), some (vi x), some (vi u)] [] (S, σs, τ) := by
        intro fm
        induction fm with
        | zero => intro u σs h3 h4 h5; omega
        | succ fm ihm =>
          intro u σs h3 h4 h5 hfr hbx
          have hwS := hwq σs (fun b q => hfr.1 b q)
          have hlS : σs l = σ l := hfr.1 l (by omega) (by omega)
          have h5S : σs (l + 5) = σ (l + 5) := hfr.1 _ (by omega) (by omega)

          have ee : ∀ k v, zu σs (l + 7) (x * 12 + u) v (l + 7) k = if k = x * 12 + u then v else σs (l + 7) k := fun k v => by
            by_cases e : k = x * 12 + u
            · subst e; rw [zu_eq, if_pos rfl]
            · rw [zu_k _ _ e, if_neg e]
          refine zw_iload_n 80 rfl dX1_bindPlaces_79 rfl ?_
          refine zw_aload_n 81 rfl dX1_bindPlaces_80 rfl ?_
          refine zw_getr 84 rfl dX1_bindPlaces_81 fl_X1_12 (by first | assumption | exact zx_o0 | exact zx_o _ _ _ rfl) (by first | assumption | exact zx_f0 _ _ rfl | exact zx_f _ _ _ rfl) ?_
          refine zw_geti 87 rfl dX1_bindPlaces_84 fl_X1_63 (by first | assumption | exact zx_o0 | exact zx_o _ _ _ rfl) ?_
          rw [hwS.2]
          refine zw_icmp_ge 122 90 rfl dX1_bindPlaces_87 (by decide) (by omega) (by omega) (fun h_87 => ?_) (fun h_87 => ?_)
          · refine zw_iinc 125 rfl dX1_bindPlaces_122 (Nat.le_of_ble_eq_true rfl) rfl rfl ?_
            refine zw_goto 66 dX1_bindPlaces_125 (by decide) ?_
            refine zw_drop 2 ?_
            exact ih (x + 1) _ (by omega) (by omega) hfr (fun x' u' q1 q2 => hbx x' u' (by omega) q2)
          · refine zw_aload_n 91 rfl dX1_bindPlaces_90 rfl ?_
            refine zw_getr 94 rfl dX1_bindPlaces_91 fl_X1_28 (by first | assumption | exact zx_o0 | exact zx_o _ _ _ rfl) (by first | assumption | exact zx_f0 _ _ rfl | exact zx_f _ _ _ rfl) ?_
            refine zw_iload_n 95 rfl dX1_bindPlaces_94 rfl ?_
            refine zw_bipush 97 rfl dX1_bindPlaces_95 rfl ?_
            refine zw_imul 98 rfl dX1_bindPlaces_97 ?_
            refine zw_iload_n 99 rfl dX1_bindPlaces_98 rfl ?_
            refine zw_iadd 100 rfl dX1_bindPlaces_99 ?_
            refine zw_iload_n 101 rfl dX1_bindPlaces_100 rfl ?_
            refine zw_iload_n 102 rfl dX1_bindPlaces_101 rfl ?_
            refine zw_aload_n 103 rfl dX1_bindPlaces_102 rfl ?_
            refine zw_geti 106 rfl dX1_bindPlaces_103 fl_X1_31 (by first | assumption | exact zx_o0 | exact zx_o _ _ _ rfl) ?_
            rw [hlS, hs]
            refine zw_aload_n 107 rfl dX1_bindPlaces_106 rfl ?_
            refine zw_getr 110 rfl dX1_bindPlaces_107 fl_X1_21 (by first | assumption | exact zx_o0 | exact zx_o _ _ _ rfl) (by first | assumption | exact zx_f0 _ _ rfl | exact zx_f _ _ _ rfl) ?_
            refine zw_iconst 111 rfl dX1_bindPlaces_110 ?_
            refine zw_iald 112 rfl dX1_bindPlaces_111 (by first | assumption | exact zx_o0 | exact zx_o _ _ _ rfl) (by omega) (by omega) ?_
            rw [h5S, show (1 : Int).toNat = 1 from rfl, hb1]
            refine zw_cSi4 115 rfl dX1_bindPlaces_112 kX1_bindPlaces_102 (Nat.le_of_ble_eq_true rfl) (c_bond (by omega) (by omega) (by omega) (by omega)) ?_
            refine zw_iast 116 rfl dX1_bindPlaces_115 (by first | assumption | exact zx_o0 | exact zx_o _ _ _ rfl) (by omega) (by omega) ?_
            refine zw_iinc 119 rfl dX1_bindPlaces_116 (Nat.le_of_ble_eq_true rfl) rfl rfl ?_
            refine zw_goto 79 dX1_bindPlaces_119 (by decide) ?_
            rw [show ((x : Int) * 12 + u).toNat = x * 12 + u by omega]
            exact ihm (u + 1) _ h3 (by omega) (by omega) ⟨fun b q1 q2 => by rw [zu_row _ _ q2]; exact hfr.1 b q1 q2, fun a b q1 q2 => by rw [zu_row _ _ (by omega)]; exact hfr.2 a b q1 q2⟩ (fun x' u' q1 q2 => by
              rw [ee]; split
              · rw [show x' = x by omega, show u' = u by omega]
              · exact hbx x' u' (by omega) q2)
      have hwS := hwq σs (fun b q => hfr.1 b q)
      refine zw_iload_n 67 rfl dX1_bindPlaces_66 rfl ?_
      refine zw_aload_n 68 rfl dX1_bindPlaces_67 rfl ?_
      refine zw_getr 71 rfl dX1_bindPlaces_68 fl_X1_12 (by first | assumption | exact zx_o0 | exact zx_o _ _ _ rfl) (by first | assumption | exact zx_f0 _ _ rfl | exact zx_f _ _ _ rfl) ?_
      refine zw_geti 74 rfl dX1_bindPlaces_71 fl_X1_63 (by first | assumption | exact zx_o0 | exact zx_o _ _ _ rfl) ?_
      rw [hwS.2]
      refine zw_icmp_ge 128 77 rfl dX1_bindPlaces_74 (by decide) (by omega) (by omega) (fun h_74 => ?_) (fun h_74 => ?_)
      · refine zw_vret (st := []) dX1_bindPlaces_128 rfl ⟨rfl, _, rfl, hfr.1, hfr.2, fun y v q1 q2 => ?_⟩
        have t := hbx y.toNat v.toNat (by omega) (by omega)
        rw [show (y * 12 + v).toNat = y.toNat * 12 + v.toNat by omega, t]
        congr 1 <;> omega
      · refine zw_iconst 78 rfl dX1_bindPlaces_77 ?_
        refine zw_istore_n 79 rfl dX1_bindPlaces_78 (Nat.le_of_ble_eq_true rfl) rfl ?_
        exact inner (g.1.2.1.toNat + 1) 0 _ (by omega) (by omega) (by omega) hfr (fun x' u' q1 q2 => hbx x' u' (by omega) q2)
  have outer2 : ∀ (fu x : Nat) (σs : zSt), (x : Int) ≤ g.1.1 → g.1.1 - x < fu → ((∀ b, b ≠ l + 6 → b ≠ l + 7 → σs b = σ b) ∧ True) → (∀ x' u' : Nat, x' < x → (u' : Int) < g.1.1 → σs (l + 6) (x' * 16 + u') = zbond x' u' g.2.2.1 g.2.2.2.2.1) → zW G M_X1_bindPlaces (fun r w => r = none ∧ ∃ σ' : zSt, w = (S, σ', τ) ∧ (∀ b, b ≠ l + 6 → b ≠ l + 7 → σ' b = σ b) ∧ xBA l g σ' ∧ xBD l g σ') 2 [some (.ref l), some (vi x), none] [] (S, σs, τ) := by
    intro fu
    induction fu with
    | zero => intro x σs h1 h2; omega
    | succ fu ih =>
      intro x σs h1 h2 hfr hbx
      have inner : ∀ (fm u : Nat) (σs : zSt), (x : Int) < g.1.1 → (u : Int) ≤ g.1.1 → g.1.1 - u < fm → ((∀ b, b ≠ l + 6 → b ≠ l + 7 → σs b = σ b) ∧ True) → (∀ x' u' : Nat, x' < x ∨ (x' = x ∧ u' < u) → (u' : Int) < g.1.1 → σs (l + 6) (x' * 16 + u') = zbond x' u' g.2.2.1 g.2.2.2.2.1) → zW G M_X1_bindPlaces (fun r w => r = none ∧ ∃ σ' : zSt, w = (S, σ', τ) ∧ (∀ b, b ≠ l + 6 → b ≠ l + 7 → σ' b = σ b) ∧ xBA l g σ' ∧ xBD l g σ') 15 [some (.ref l), some (vi x), some (vi u)] [] (S, σs, τ) := by
        intro fm
        induction fm with
        | zero => intro u σs h3 h4 h5; omega
        | succ fm ihm =>
          intro u σs h3 h4 h5 hfr hbx
          have hwS := hwq σs (fun b q => hfr.1 b q)
          have hlS : σs l = σ l := hfr.1 l (by omega) (by omega)
          have h5S : σs (l + 5) = σ (l + 5) := hfr.1 _ (by omega) (by omega)

          have ee : ∀ k v, zu σs (l + 6) (x * 16 + u) v (l + 6) k = if k = x * 16 + u then v else σs (l + 6) k := fun k v => by
            by_cases e : k = x * 16 + u
            · subst e; rw [zu_eq, if_pos rfl]
            · rw [zu_k _ _ e, if_neg e]
          refine zw_iload_n 16 rfl dX1_bindPlaces_15 rfl ?_
          refine zw_aload_n 17 rfl dX1_bindPlaces_16 rfl ?_
          refine zw_getr 20 rfl dX1_bindPlaces_17 fl_X1_12 (by first | assumption | exact zx_o0 | exact zx_o _ _ _ rfl) (by first | assumption | exact zx_f0 _ _ rfl | exact zx_f _ _ _ rfl) ?_
          refine zw_geti 23 rfl dX1_bindPlaces_20 fl_X1_70 (by first | assumption | exact zx_o0 | exact zx_o _ _ _ rfl) ?_
          rw [hwS.1]
          refine zw_icmp_ge 58 26 rfl dX1_bindPlaces_23 (by decide) (by omega) (by omega) (fun h_23 => ?_) (fun h_23 => ?_)
          · refine zw_iinc 61 rfl dX1_bindPlaces_58 (Nat.le_of_ble_eq_true rfl) rfl rfl ?_
            refine zw_goto 2 dX1_bindPlaces_61 (by decide) ?_
            refine zw_drop 2 ?_
            exact ih (x + 1) _ (by omega) (by omega) hfr (fun x' u' q1 q2 => hbx x' u' (by omega) q2)
          · refine zw_aload_n 27 rfl dX1_bindPlaces_26 rfl ?_
            refine zw_getr 30 rfl dX1_bindPlaces_27 fl_X1_25 (by first | assumption | exact zx_o0 | exact zx_o _ _ _ rfl) (by first | assumption | exact zx_f0 _ _ rfl | exact zx_f _ _ _ rfl) ?_
            refine zw_iload_n 31 rfl dX1_bindPlaces_30 rfl ?_
            refine zw_bipush 33 rfl dX1_bindPlaces_31 rfl ?_
            refine zw_imul 34 rfl dX1_bindPlaces_33 ?_
            refine zw_iload_n 35 rfl dX1_bindPlaces_34 rfl ?_
            refine zw_iadd 36 rfl dX1_bindPlaces_35 ?_
            refine zw_iload_n 37 rfl dX1_bindPlaces_36 rfl ?_
            refine zw_iload_n 38 rfl dX1_bindPlaces_37 rfl ?_
            refine zw_aload_n 39 rfl dX1_bindPlaces_38 rfl ?_
            refine zw_geti 42 rfl dX1_bindPlaces_39 fl_X1_31 (by first | assumption | exact zx_o0 | exact zx_o _ _ _ rfl) ?_
            rw [hlS, hs]
            refine zw_aload_n 43 rfl dX1_bindPlaces_42 rfl ?_
            refine zw_getr 46 rfl dX1_bindPlaces_43 fl_X1_21 (by first | assumption | exact zx_o0 | exact zx_o _ _ _ rfl) (by first | assumption | exact zx_f0 _ _ rfl | exact zx_f _ _ _ rfl) ?_
            refine zw_iconst 47 rfl dX1_bindPlaces_46 ?_
            refine zw_iald 48 rfl dX1_bindPlaces_47 (by first | assumption | exact zx_o0 | exact zx_o _ _ _ rfl) (by omega) (by omega) ?_
            rw [h5S, show (0 : Int).toNat = 0 from rfl, hb0]
            refine zw_cSi4 51 rfl dX1_bindPlaces_48 kX1_bindPlaces_102 (Nat.le_of_ble_eq_true rfl) (c_bond (by omega) (by omega) (by omega) (by omega)) ?_
            refine zw_iast 52 rfl dX1_bindPlaces_51 (by first | assumption | exact zx_o0 | exact zx_o _ _ _ rfl) (by omega) (by omega) ?_
            refine zw_iinc 55 rfl dX1_bindPlaces_52 (Nat.le_of_ble_eq_true rfl) rfl rfl ?_
            refine zw_goto 15 dX1_bindPlaces_55 (by decide) ?_
            rw [show ((x : Int) * 16 + u).toNat = x * 16 + u by omega]
            exact ihm (u + 1) _ h3 (by omega) (by omega) ⟨fun b q1 q2 => by rw [zu_row _ _ q1]; exact hfr.1 b q1 q2, trivial⟩ (fun x' u' q1 q2 => by
              rw [ee]; split
              · rw [show x' = x by omega, show u' = u by omega]
              · exact hbx x' u' (by omega) q2)
      have hwS := hwq σs (fun b q => hfr.1 b q)
      refine zw_iload_n 3 rfl dX1_bindPlaces_2 rfl ?_
      refine zw_aload_n 4 rfl dX1_bindPlaces_3 rfl ?_
      refine zw_getr 7 rfl dX1_bindPlaces_4 fl_X1_12 (by first | assumption | exact zx_o0 | exact zx_o _ _ _ rfl) (by first | assumption | exact zx_f0 _ _ rfl | exact zx_f _ _ _ rfl) ?_
      refine zw_geti 10 rfl dX1_bindPlaces_7 fl_X1_70 (by first | assumption | exact zx_o0 | exact zx_o _ _ _ rfl) ?_
      rw [hwS.1]
      refine zw_icmp_ge 64 13 rfl dX1_bindPlaces_10 (by decide) (by omega) (by omega) (fun h_10 => ?_) (fun h_10 => ?_)
      · refine zw_iconst 65 rfl dX1_bindPlaces_64 ?_
        refine zw_istore_n 66 rfl dX1_bindPlaces_65 (Nat.le_of_ble_eq_true rfl) rfl ?_
        exact outer66 (g.1.2.1.toNat + 1) 0 _ (by omega) (by omega) ⟨hfr.1, fun a b q1 q2 => by
          have t := hbx a.toNat b.toNat (by omega) (by omega)
          rw [show (a * 16 + b).toNat = a.toNat * 16 + b.toNat by omega, t]
          congr 1 <;> omega⟩ (fun x' u' q1 q2 => by omega)
      · refine zw_iconst 14 rfl dX1_bindPlaces_13 ?_
        refine zw_istore_n 15 rfl dX1_bindPlaces_14 (Nat.le_of_ble_eq_true rfl) rfl ?_
        exact inner (g.1.1.toNat + 1) 0 _ (by omega) (by omega) (by omega) hfr (fun x' u' q1 q2 => hbx x' u' (by omega) q2)
  refine zw_iconst 1 rfl dX1_bindPlaces_0 ?_
  refine zw_istore_n 2 rfl dX1_bindPlaces_1 (Nat.le_of_ble_eq_true rfl) rfl ?_
  exact outer2 (g.1.1.toNat + 1) 0 _ (by omega) (by omega) ⟨fun _ _ _ => rfl, trivial⟩ (fun x' u' q1 q2 => by omega)
