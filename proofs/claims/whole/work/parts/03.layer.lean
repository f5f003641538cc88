/-! ===== the words of the tables, good ones and those of nest mates ===== -/
def zi_nest : Cond → Bool
  | .fieldLinkNest _ _ _ _ _ _ => true
  | .methodLinkNest _ _ _ _ => true
  | _ => false
def zt_tbl : List Cond := lw_tbl.filter goodWord
def zn_tbl : List Cond := tables_1.filter zi_nest
theorem zt_t {w : Cond} (i : Nat) (h : tables_1[i]? = some w) (hg : goodWord w = true) : w ∈ zt_tbl := List.mem_filter.mpr ⟨List.mem_append_right _ (List.mem_of_getElem? h), hg⟩
theorem zt_p {q : MethodName × Nat} (i : Nat) (h : lw_privs[i]? = some q) (hg : goodWord (Cond.selects q.1.cls q.1 q.1) = true) : Cond.selects q.1.cls q.1 q.1 ∈ zt_tbl := List.mem_filter.mpr ⟨List.mem_append_left _ (List.mem_map.mpr ⟨q, List.mem_of_getElem? h, rfl⟩), hg⟩
theorem zn_t {w : Cond} (i : Nat) (h : tables_1[i]? = some w) (hg : zi_nest w = true) : w ∈ zn_tbl := List.mem_filter.mpr ⟨List.mem_of_getElem? h, hg⟩
theorem zn_warm {n : Cond} (hn : n ∈ zn_tbl) {s U : State} (hW : s.WarmedH U.vm) (h : va_Nw n s) : va_Nw n U := by
  have h2 := (List.mem_filter.mp hn).2
  cases n with
  | fieldLinkNest a i b n d h => exact va_Nw.warmF hW h
  | methodLinkNest a i x h => exact va_Nw.warmM hW h
  | _ => simp [zi_nest] at h2
theorem zn_same {n : Cond} (hn : n ∈ zn_tbl) {s U : State} (hv : s.vm = U.vm) (h : va_Nw n s) : va_Nw n U := by
  have h2 := (List.mem_filter.mp hn).2
  cases n with
  | fieldLinkNest a i b n d h => exact va_Nw.same rfl hv h
  | methodLinkNest a i x h => exact va_Nw.same rfl hv h
  | _ => simp [zi_nest] at h2
/-! ===== numbers: what the machine keeps of a whole number ===== -/
def zI (a : Int) : Int32 := Int32.ofInt a
def zL (a : Int) : Int64 := Int64.ofInt a
abbrev vi (a : Int) : Value := .int (zI a)
abbrev vl (a : Int) : Value := .long (zL a)
theorem zI_t {a : Int} (h : -2147483648 ≤ a ∧ a ≤ 2147483647) : (zI a).toInt = a := Int32.toInt_ofInt_of_le (by omega) (by omega)
theorem zL_t {a : Int} (h : -9223372036854775808 ≤ a ∧ a ≤ 9223372036854775807) : (zL a).toInt = a := Int64.toInt_ofInt_of_le (by omega) (by omega)
theorem zI_self (x : Int32) : zI x.toInt = x := Int32.ofInt_toInt x
theorem zL_self (x : Int64) : zL x.toInt = x := Int64.ofInt_toInt x
theorem zI_add (a b : Int) : zI a + zI b = zI (a + b) := (Int32.ofInt_add a b).symm
theorem zI_sub (a b : Int) : zI a - zI b = zI (a - b) := (Int32.ofInt_sub a b).symm
theorem zI_mul (a b : Int) : zI a * zI b = zI (a * b) := (Int32.ofInt_mul a b).symm
theorem zI_neg (a : Int) : -zI a = zI (-a) := (Int32.ofInt_neg a).symm
theorem zL_add (a b : Int) : zL a + zL b = zL (a + b) := (Int64.ofInt_add a b).symm
theorem zL_sub (a b : Int) : zL a - zL b = zL (a - b) := (Int64.ofInt_sub a b).symm
theorem zL_mul (a b : Int) : zL a * zL b = zL (a * b) := (Int64.ofInt_mul a b).symm
theorem zL_neg (a : Int) : -zL a = zL (-a) := (Int64.ofInt_neg a).symm
theorem zI_lt {a b : Int} (ha : -2147483648 ≤ a ∧ a ≤ 2147483647) (hb : -2147483648 ≤ b ∧ b ≤ 2147483647) : zI a < zI b ↔ a < b := by rw [Int32.lt_iff_toInt_lt, zI_t ha, zI_t hb]
theorem zI_le {a b : Int} (ha : -2147483648 ≤ a ∧ a ≤ 2147483647) (hb : -2147483648 ≤ b ∧ b ≤ 2147483647) : zI a ≤ zI b ↔ a ≤ b := by rw [Int32.le_iff_toInt_le, zI_t ha, zI_t hb]
theorem zI_eq {a b : Int} (ha : -2147483648 ≤ a ∧ a ≤ 2147483647) (hb : -2147483648 ≤ b ∧ b ≤ 2147483647) : zI a = zI b ↔ a = b := by rw [← Int32.toInt_inj, zI_t ha, zI_t hb]
theorem zI_0 : (0 : Int32) = zI 0 := rfl
theorem zL_0 : (0 : Int64) = zL 0 := rfl
theorem zL_lt {a b : Int} (ha : -9223372036854775808 ≤ a ∧ a ≤ 9223372036854775807) (hb : -9223372036854775808 ≤ b ∧ b ≤ 9223372036854775807) : zL a < zL b ↔ a < b := by rw [Int64.lt_iff_toInt_lt, zL_t ha, zL_t hb]
theorem zL_eq {a b : Int} (ha : -9223372036854775808 ≤ a ∧ a ≤ 9223372036854775807) (hb : -9223372036854775808 ≤ b ∧ b ≤ 9223372036854775807) : zL a = zL b ↔ a = b := by rw [← Int64.toInt_inj, zL_t ha, zL_t hb]
theorem zI_div {a b : Int} (ha : 0 ≤ a ∧ a ≤ 2147483647) (hb : 0 < b ∧ b ≤ 2147483647) : zI a / zI b = zI (a / b) := by
  have h1 : a.tdiv b = a / b := Int.tdiv_eq_ediv_of_nonneg ha.1
  have h2 : Int32.ofInt (a.tdiv b) = Int32.ofInt a / Int32.ofInt b := Int32.ofInt_tdiv (by have : Int32.minValue.toInt = -2147483648 := rfl; omega) (by have : Int32.maxValue.toInt = 2147483647 := rfl; omega) (by have : Int32.minValue.toInt = -2147483648 := rfl; omega) (by have : Int32.maxValue.toInt = 2147483647 := rfl; omega)
  show Int32.ofInt a / Int32.ofInt b = Int32.ofInt (a / b)
  rw [← h1, h2]
theorem zL_div {a b : Int} (ha : 0 ≤ a ∧ a ≤ 9223372036854775807) (hb : 0 < b ∧ b ≤ 9223372036854775807) : zL a / zL b = zL (a / b) := by
  have h1 : a.tdiv b = a / b := Int.tdiv_eq_ediv_of_nonneg ha.1
  have h2 : Int64.ofInt (a.tdiv b) = Int64.ofInt a / Int64.ofInt b := Int64.ofInt_tdiv (by have : Int64.minValue.toInt = -9223372036854775808 := rfl; omega) (by have : Int64.maxValue.toInt = 9223372036854775807 := rfl; omega) (by have : Int64.minValue.toInt = -9223372036854775808 := rfl; omega) (by have : Int64.maxValue.toInt = 9223372036854775807 := rfl; omega)
  show Int64.ofInt a / Int64.ofInt b = Int64.ofInt (a / b)
  rw [← h1, h2]
theorem zz_mod (a b : Int) : a - a / b * b = a % b := by rw [Int.emod_def, Int.mul_comm]
theorem zI_rem {a b : Int} (ha : 0 ≤ a ∧ a ≤ 2147483647) (hb : 0 < b ∧ b ≤ 2147483647) : zI a - zI a / zI b * zI b = zI (a % b) := by rw [zI_div ha hb, zI_mul, zI_sub, zz_mod]
theorem zL_rem {a b : Int} (ha : 0 ≤ a ∧ a ≤ 9223372036854775807) (hb : 0 < b ∧ b ≤ 9223372036854775807) : zL a - zL a / zL b * zL b = zL (a % b) := by rw [zL_div ha hb, zL_mul, zL_sub, zz_mod]
theorem zI_l {a : Int} (h : -2147483648 ≤ a ∧ a ≤ 2147483647) : (zI a).toInt64 = zL a := Int32.toInt64_ofInt (by have : Int32.minValue.toInt = -2147483648 := rfl; omega) (by have : Int32.maxValue.toInt = 2147483647 := rfl; omega)
theorem zL_i (a : Int) : (zL a).toInt32 = zI a := Int64.toInt32_ofInt
theorem zI_cl {a : Int} (h : -2147483648 ≤ a ∧ a ≤ 2147483647) : (zI a).toNatClampNeg = a.toNat := Int32.toNatClampNeg_ofInt_of_le (by omega) (by omega)
theorem zI_in {a : Int} {n : Nat} (h : 0 ≤ a ∧ a < n) (hn : a ≤ 2147483647) : vp_in (zI a) n := by
  intro q
  rcases q with q | q
  · rw [zI_0, zI_lt (by omega) (by omega)] at q; omega
  · rw [zI_cl (by omega)] at q; omega
/-! ===== the world: addresses; of each its kind and length; what references it holds; ints; longs ===== -/
abbrev zSh : Type := List Nat × (Nat → Nat × Nat) × (Nat → Nat → Option Nat)
abbrev zSt : Type := Nat → Nat → Int
abbrev zWd : Type := zSh × zSt × zSt
/-- what is fixed: class ids and slots; the classes of int[], long[], Picture[]; the free addresses; where the two tables lie -/
abbrev zG : Type := ((Nat → ClassId) × (Nat → Nat → Nat)) × (ClassId × ClassId × ClassId) × (Nat → Prop) × (Nat × Nat)
abbrev zgD (G : zG) : va_G := G.1
abbrev zgA (G : zG) : Nat → Prop := G.2.2.1
abbrev zgE (G : zG) : Nat := G.2.2.2.1
abbrev zgP (G : zG) : Nat := G.2.2.2.2
abbrev zg_tys (G : zG) : List (ClassId × FieldType) := [(G.2.1.1, .int), (G.2.1.2.1, .long), (G.2.1.2.2, .object "ShadeGrid$Picture")]
def zk_f : Nat → List Nat
  | 0 => [2, 2, 0, 0]
  | 1 => [2, 2, 2, 2, 2, 0, 0, 1, 1]
  | 2 => [2, 2, 0]
  | 3 => [2]
  | 4 => [2, 0, 0, 0, 0]
  | 5 => [2, 0, 0]
  | 6 => [2, 2, 2, 0, 0]
  | 7 => [2, 0, 0]
  | 8 => [2, 0, 0, 0, 0, 0, 0]
  | 9 => [2, 2, 0]
  | 10 => [2, 2, 2, 2, 2, 2, 2, 2, 2, 2, 2, 2, 2, 2, 0, 0, 0, 0]
  | 11 => [0, 0, 0, 2, 0, 0, 0, 0, 0, 0, 0, 0, 2, 2, 2, 2, 2, 2, 2, 0, 0, 2, 2, 0, 2, 2, 2, 2, 2, 2, 2, 2, 3, 0, 0, 0, 0, 1, 1, 2, 0, 2, 2, 2, 0, 2, 0]
  | _ => []
def z_v (σ τ : Nat → Int) (ρ : Nat → Option Nat) (k t : Nat) : Value := if t = 1 then vl (τ k) else if t = 2 then va_rf (ρ k) else vi (σ k)
def z_fs (σ τ : Nat → Int) (ρ : Nat → Option Nat) : Nat → List Nat → List Value
  | _, [] => []
  | k, t :: r => z_v σ τ ρ k t :: z_fs σ τ ρ (k + 1) r
theorem z_fs_len (σ τ : Nat → Int) (ρ : Nat → Option Nat) : ∀ (ks : List Nat) (i : Nat), (z_fs σ τ ρ i ks).length = ks.length
  | [], _ => rfl
  | t :: r, i => by simp [z_fs, z_fs_len σ τ ρ r (i + 1)]
theorem z_fs_get (σ τ : Nat → Int) (ρ : Nat → Option Nat) : ∀ (ks : List Nat) (i k t : Nat), ks[k]? = some t → (z_fs σ τ ρ i ks)[k]? = some (z_v σ τ ρ (i + k) t)
  | [], _, _, _, h => by simp at h
  | t :: r, i, 0, t', h => by simp at h; subst h; simp [z_fs]
  | t :: r, i, k + 1, t', h => by
    simp only [List.getElem?_cons_succ] at h
    simp only [z_fs, List.getElem?_cons_succ]
    rw [z_fs_get σ τ ρ r (i + 1) k t' h, show i + 1 + k = i + (k + 1) by omega]
theorem z_fs_cong {σ τ σ' τ' : Nat → Int} {ρ : Nat → Option Nat} : ∀ (ks : List Nat) (i : Nat), (∀ j t, i ≤ j → z_v σ τ ρ j t = z_v σ' τ' ρ j t) → z_fs σ τ ρ i ks = z_fs σ' τ' ρ i ks
  | [], _, _ => rfl
  | t :: r, i, h => by simp only [z_fs]; rw [h i t (Nat.le_refl _), z_fs_cong r (i + 1) (fun j t hj => h j t (by omega))]
theorem z_fs_set {σ τ σ' τ' : Nat → Int} {ρ : Nat → Option Nat} : ∀ (ks : List Nat) (i k t : Nat), ks[k]? = some t → (∀ j t', j ≠ i + k → z_v σ τ ρ j t' = z_v σ' τ' ρ j t') → (z_fs σ τ ρ i ks).set k (z_v σ' τ' ρ (i + k) t) = z_fs σ' τ' ρ i ks
  | [], _, _, _, h, _ => by simp at h
  | t :: r, i, 0, t', h, hj => by
    simp at h; subst h
    simp only [z_fs, List.set_cons_zero, Nat.add_zero]
    rw [z_fs_cong r (i + 1) (fun j t h2 => hj j t (by omega))]
  | t :: r, i, k + 1, t', h, hj => by
    simp only [List.getElem?_cons_succ] at h
    simp only [z_fs, List.set_cons_succ]
    rw [hj i t (by omega), show i + (k + 1) = i + 1 + k by omega, z_fs_set r (i + 1) k t' h (fun j t h2 => hj j t (by omega))]
def z_cell (G : zG) (w : zWd) (a : Nat) : va_E :=
  if (w.1.2.1 a).1 < 12 then .inr ((w.1.2.1 a).1, z_fs (w.2.1 a) (w.2.2 a) (w.1.2.2 a) 0 (zk_f (w.1.2.1 a).1))
  else if (w.1.2.1 a).1 = 12 then .inl (G.2.1.1, (w.1.2.1 a).2, .inl (fun j => zI (w.2.1 a j)))
  else if (w.1.2.1 a).1 = 13 then .inl (G.2.1.2.1, (w.1.2.1 a).2, .inr (.inl (fun j => zL (w.2.2 a j))))
  else .inl (G.2.1.2.2, (w.1.2.1 a).2, .inr (.inr (.inr (.inr (w.1.2.2 a)))))
def z_ws (G : zG) (w : zWd) : va_W := va_pl w.1.1 (z_cell G w)
/-- at a lies a thing of kind c (a class's number; 12 int[], 13 long[], 14 Picture[]) and length n -/
def zo (S : zSh) (a c n : Nat) : Prop := a ∈ S.1 ∧ S.2.1 a = (c, n)
theorem z_cell_o {G : zG} {S : zSh} {σ τ : zSt} {a c n : Nat} (h : zo S a c n) (hc : c < 12) : z_cell G (S, σ, τ) a = .inr (c, z_fs (σ a) (τ a) (S.2.2 a) 0 (zk_f c)) := by simp [z_cell, h.2, hc]
theorem z_cell_i {G : zG} {S : zSh} {σ τ : zSt} {a n : Nat} (h : zo S a 12 n) : z_cell G (S, σ, τ) a = .inl (G.2.1.1, n, .inl (fun j => zI (σ a j))) := by simp [z_cell, h.2]
theorem z_cell_l {G : zG} {S : zSh} {σ τ : zSt} {a n : Nat} (h : zo S a 13 n) : z_cell G (S, σ, τ) a = .inl (G.2.1.2.1, n, .inr (.inl (fun j => zL (τ a j)))) := by simp [z_cell, h.2]
theorem z_cell_q {G : zG} {S : zSh} {σ τ : zSt} {a n : Nat} (h : zo S a 14 n) : z_cell G (S, σ, τ) a = .inl (G.2.1.2.2, n, .inr (.inr (.inr (.inr (S.2.2 a))))) := by simp [z_cell, h.2]
theorem z_at {G : zG} {S : zSh} {σ τ : zSt} {a c n : Nat} (h : zo S a c n) : ∃ k : Nat, (z_ws G (S, σ, τ))[k]? = some (a, z_cell G (S, σ, τ) a) := va_pl_get (X := []) h.1
theorem z_put {G : zG} {S : zSh} {σ τ σ' τ' : zSt} {A : Nat → Prop} {a k c n : Nat} {e : va_E} (hD : va_D A (z_ws G (S, σ, τ))) (h : zo S a c n) (hk : (z_ws G (S, σ, τ))[k]? = some (a, z_cell G (S, σ, τ) a)) (he : e = z_cell G (S, σ', τ') a) (hn : ∀ b, b ≠ a → σ' b = σ b ∧ τ' b = τ b) :
    (z_ws G (S, σ, τ)).set k (a, e) = z_ws G (S, σ', τ') := by
  have h1 := va_pl_set (X := []) (e := e) hD h.1 hk
  refine Eq.trans h1 ?_
  show va_pl S.1 (va_up (z_cell G (S, σ, τ)) a e) = va_pl S.1 (z_cell G (S, σ', τ'))
  refine va_pl_congr fun b => ?_
  by_cases hb : b = a
  · subst hb; rw [va_up_self, he]
  · rw [va_up_ne _ _ hb]
    simp only [z_cell]
    rw [(hn b hb).1, (hn b hb).2]
/-- one number changes -/
def zu (σ : zSt) (a k : Nat) (v : Int) : zSt := fun b j => if b = a ∧ j = k then v else σ b j
/-- a row changes -/
def zr (σ : zSt) (a : Nat) (f : Nat → Int) : zSt := fun b j => if b = a then f j else σ b j
theorem zu_eq (σ : zSt) (a k : Nat) (v : Int) : zu σ a k v a k = v := by simp [zu]
theorem zu_a (σ : zSt) {a b k j : Nat} (v : Int) (h : b ≠ a) : zu σ a k v b j = σ b j := by simp [zu, h]
theorem zu_k (σ : zSt) {a b k j : Nat} (v : Int) (h : j ≠ k) : zu σ a k v b j = σ b j := by simp [zu, h]
theorem zu_row (σ : zSt) {a b k : Nat} (v : Int) (h : b ≠ a) : zu σ a k v b = σ b := by funext j; exact zu_a σ v h
theorem zr_eq (σ : zSt) (a : Nat) (f : Nat → Int) : zr σ a f a = f := by funext j; simp [zr]
theorem zr_ne (σ : zSt) {a b : Nat} (f : Nat → Int) (h : b ≠ a) : zr σ a f b = σ b := by funext j; simp [zr, h]
theorem zr_zr (σ : zSt) (a : Nat) (f g : Nat → Int) : zr (zr σ a f) a g = zr σ a g := by funext b j; simp only [zr]; split <;> rfl
theorem zr_self (σ : zSt) (a : Nat) : zr σ a (σ a) = σ := by funext b j; simp only [zr]; split <;> simp_all
theorem zu_zr (σ : zSt) (a : Nat) (f : Nat → Int) (k : Nat) (v : Int) : zu (zr σ a f) a k v = zr σ a (fun j => if j = k then v else f j) := by funext b j; simp only [zr, zu]; by_cases hb : b = a <;> by_cases hj : j = k <;> simp [hb, hj]
theorem zu_as (σ : zSt) (a k : Nat) (v : Int) : zu σ a k v = zr σ a (fun j => if j = k then v else σ a j) := by funext b j; simp only [zr, zu]; by_cases hb : b = a <;> by_cases hj : j = k <;> simp [hb, hj]
theorem zr_comm (σ : zSt) {a b : Nat} (f g : Nat → Int) (h : a ≠ b) : zr (zr σ a f) b g = zr (zr σ b g) a f := by funext c j; simp only [zr]; by_cases h1 : c = a <;> by_cases h2 : c = b <;> simp_all
/-! ===== the static tables ===== -/
def z_ech (j : Nat) : Int := ([0, 0, 0, 1, 0, 0, 0, 0, 0, 1, 2, 1, 0, 0, 0, 1, 4, 6, 4, 1, 0, 1, 6, 15, 20, 15, 6, 1] : List Int).getD j 0
def z_gap (j : Nat) : Int := ([132, 57, 23, 10, 4, 1] : List Int).getD j 0
def zSta (G : zG) (U : State) (H : Heap) : Prop := va_Z "ShadeGrid$Lattice" "ECHOES" "[I" (.ref (zgE G)) (zgA G) U H ∧ va_T .int (zgE G) 28 (fun j => vi (z_ech j)) (zgA G) U H ∧ va_Z "ShadeGrid$Pairs" "GAPS" "[I" (.ref (zgP G)) (zgA G) U H ∧ va_T .int (zgP G) 6 (fun j => vi (z_gap j)) (zgA G) U H
theorem zSta.moved {G : zG} {u U : State} {H : Heap} (hvm : u.vm.Alike U.vm) (h : zSta G u H) : zSta G U H := ⟨h.1.moved hvm, h.2.1.moved hvm, h.2.2.1.moved hvm, h.2.2.2.moved hvm⟩
theorem zSta.kept {G : zG} {U : State} {H H1 : Heap} (h : zSta G U H) (hq : ∀ a : Nat, a < H.size → ¬ (zgA G) a → H1[a]? = H[a]?) : zSta G U H1 := ⟨h.1.kept hq, h.2.1.kept hq, h.2.2.1.kept hq, h.2.2.2.kept hq⟩
/-! ===== methods, contracts, points of a body ===== -/
/-- name, code, locals, what it gives back, how many arguments, frames, words of locals -/
abbrev zMt : Type := MethodName × ByteArray × Nat × Option FieldType × Nat × Nat × Nat
abbrev zm_y (M : zMt) : MethodName := M.1
abbrev zm_cc (M : zMt) : ByteArray := M.2.1
abbrev zm_nL (M : zMt) : Nat := M.2.2.1
abbrev zm_ret (M : zMt) : Option FieldType := M.2.2.2.1
abbrev zm_n (M : zMt) : Nat := M.2.2.2.2.1
abbrev zm_fr (M : zMt) : Nat := M.2.2.2.2.2.1
abbrev zm_lw (M : zMt) : Nat := M.2.2.2.2.2.2
def zm_rm (M : zMt) : Room := { frames := zm_fr M, cells := 0, slots := 0, locals := zm_lw M }
def zm_ws (M : zMt) : List Cond := .code (zm_y M) (zm_cc M) (zm_nL M) (zm_ret M) :: zt_tbl
def zAt (G : zG) (w : zWd) (U : State) : Prop := va_P (zgD G) vwCl (z_ws G w) U.heap ∧ va_K (zgD G) vwCl (zg_tys G) U ∧ va_D (zgA G) (z_ws G w) ∧ (∀ n ∈ zn_tbl, va_Nw n U) ∧ zSta G U U.heap
def zQ (G : zG) (Q : Option Value → zWd → Prop) : Array Value → State → Outcome → State → Prop := fun _ st o t => (∃ (r : Option Value) (w' : zWd), o = .returned r ∧ Q r w' ∧ zAt G w' t) ∧ va_F (zgA G) st t
/-- the contract: from the world w, with these arguments, the method returns, and Q holds of what it gives back and of the world then -/
def zC (G : zG) (M : zMt) (av : List Value) (w : zWd) (Q : Option Value → zWd → Prop) : Prop := ∀ l : Launch, Met l (zm_y M) (zm_ws M) (zm_rm M) (va_Pc av (zAt G w)) (zQ G Q) 0 0 (zgA G)
def zCx (G : zG) (M : zMt) (p : Program) (s : State) (m : MethodId) (args : Array Value) (meth : Method) (c : Code) : Prop :=
  p.tables.exec = Jvm.exec ∧ c.code = zm_cc M ∧ c.maxLocals = zm_nL M ∧ meth.sig.returnType = zm_ret M ∧ meth.locks = false ∧ (∀ w ∈ zm_ws M, w.before args s = true) ∧ s.vm.findClass (zm_y M).cls = some m.cls ∧ va_K (zgD G) vwCl (zg_tys G) s ∧ (∀ n ∈ zn_tbl, va_Nw n s) ∧ zSta G s s.heap
def zH (G : zG) (w : zWd) (s : State) (H : Heap) (locs : List Loc) : Prop := va_P (zgD G) vwCl (z_ws G w) H ∧ va_D (zgA G) (z_ws G w) ∧ va_S (zgA G) s.heap H locs
/-- the locals, place by place -/
def zl (ls : Array Slot) (nL : Nat) (lv : List (Option Value)) : Prop := ∃ l : List (Nat × Value), lv_has ls nL l ∧ ∀ i v, lv[i]? = some (some v) → (i, v) ∈ l
theorem zl.at {ls : Array Slot} {nL : Nat} {lv : List (Option Value)} (h : zl ls nL lv) {i : Nat} {v : Value} (hi : lv[i]? = some (some v)) : ls[i]? = some (.val v) := by
  obtain ⟨l, h1, h2⟩ := h
  exact h1.2.2 (i, v) (h2 i v hi)
theorem zl.size {ls : Array Slot} {nL : Nat} {lv : List (Option Value)} (h : zl ls nL lv) : ls.size = nL := by
  obtain ⟨l, h1, h2⟩ := h
  exact h1.1
/-- a point of a body: from here the method returns, and Q holds -/
def zW (G : zG) (M : zMt) (Q : Option Value → zWd → Prop) (pc : Nat) (lv : List (Option Value)) (st : List Value) (w : zWd) : Prop :=
  ∀ (p : Program) (l : Launch) (e : Env) (s : State) (m : MethodId) (args : Array Value) (below : List Frame) (meth : Method) (c : Code) (H : Heap) (locs : List Loc) (ls : Array Slot),
    zCx G M p s m args meth c → zl ls (zm_nL M) lv → zH G w s H locs →
    W p l e (zm_rm M) s m args below meth c H locs 0 0 (MQ below (zQ G Q) args s 0 0 (zgA G)) (F0 m pc ls st)
theorem zAt_end {G : zG} {M : zMt} {w : zWd} {p : Program} {s t : State} {m : MethodId} {args : Array Value} {meth : Method} {c : Code} {H : Heap} {locs : List Loc} (hc : zCx G M p s m args meth c) (hh : zH G w s H locs) (ht : t.heap = H) (hW : s.WarmedH t.vm) : zAt G w t := by
  obtain ⟨hP, hD, hS⟩ := hh
  obtain ⟨-, -, -, -, -, -, -, hK, hN, hZ⟩ := hc
  exact ⟨by rw [ht]; exact hP, hK.moved hW.alike, hD, fun n hn => zn_warm hn hW (hN n hn), by rw [ht]; exact (hZ.kept hS.2.1).moved hW.alike⟩
/-- the entry's locals -/
def zent : List Value → List (Option Value)
  | [] => []
  | v :: r => if v.category = 2 then some v :: none :: zent r else some v :: zent r
theorem zent_in : ∀ (vs : List Value) (k i : Nat) (v : Value), (zent vs)[i]? = some (some v) → (k + i, v) ∈ lv_args k vs
  | [], k, i, v, h => by simp [zent] at h
  | x :: r, k, i, v, h => by
    by_cases hx : x.category = 2
    · simp only [zent, hx, if_true] at h
      simp only [lv_args, hx, if_true]
      match i, h with
      | 0, h => simp at h; subst h; exact List.mem_cons_self
      | 1, h => simp at h
      | i + 2, h =>
        simp only [List.getElem?_cons_succ] at h
        have := zent_in r (k + 2) i v h
        rw [show k + 2 + i = k + (i + 2) by omega] at this
        exact List.mem_cons_of_mem _ this
    · simp only [zent, hx, if_false] at h
      simp only [lv_args, hx, if_false]
      match i, h with
      | 0, h => simp at h; subst h; exact List.mem_cons_self
      | i + 1, h =>
        simp only [List.getElem?_cons_succ] at h
        have := zent_in r (k + 1) i v h
        rw [show k + 1 + i = k + (i + 1) by omega] at this
        exact List.mem_cons_of_mem _ this
theorem zent_pad (vs : List Value) (n i : Nat) (v : Value) (h : (zent vs ++ List.replicate n none)[i]? = some (some v)) : (zent vs)[i]? = some (some v) := by
  by_cases hi : i < (zent vs).length
  · rw [List.getElem?_append_left hi] at h; exact h
  · rw [List.getElem?_append_right (by omega), List.getElem?_replicate] at h
    split at h <;> simp at h
theorem zC_of {G : zG} {M : zMt} {av : List Value} {w : zWd} {Q : Option Value → zWd → Prop} (n : Nat) (hp : plainName (zm_y M).cls = true) (hn : (lg_sl av).length ≤ zm_nL M) (h : zW G M Q 0 (zent av ++ List.replicate n none) [] w) : zC G M av w Q := by
  intro l
  refine Met.ofW (cc := zm_cc M) (maxL := zm_nL M) (ret := zm_ret M) (ws' := zt_tbl) hp rfl ?_
  intro p e s m args below meth c s₁ B hml hv
  obtain ⟨rfl, hP, hK, hD, hN, hZ⟩ := hv
  have hts := atoms_spec (ws := zm_ws M) B.pre
  have hown : s.vm.findClass (zm_y M).cls = some m.cls := findClass_of_methodNamed B.named
  have hl := lv_entry av (n := zm_nL M) hn
  rw [lg_entry_eq]
  exact h p l e s m av.toArray below meth c s.heap [] _ ⟨B.exec, B.bytes, hml, B.returns, B.notSynchronized, hts, hown, hK, hN, hZ⟩ ⟨_, hl, fun i v hi => by have := zent_in av 0 i v (zent_pad av n i v hi); rw [Nat.zero_add] at this; exact this⟩ ⟨hP, hD, va_S.rf⟩
