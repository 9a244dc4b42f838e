/-! The integer machine: words for the state of class and reference in one world of 83 cells -/
section BASE
abbrev V : Type := Int ⊕ Nat
abbrev Sg : Type := Nat → Int → Int
/-- D, addresses of the cells, classes of arrays, the cells that may change, String constants, their arrays -/
abbrev Gm : Type := va_G × (Nat → Nat) × (Nat → ClassId) × (Nat → Prop) × (Nat → Nat) × (Nat → Nat)
def ii (z : Int) : Int32 := Int32.ofInt z
def rg (z : Int) : Prop := -2147483648 ≤ z ∧ z < 2147483648
theorem ii_toInt {z : Int} (h : rg z) : (ii z).toInt = z := Int32.toInt_ofInt_of_le h.1 h.2
theorem ii_of (x : Int32) : ii x.toInt = x := Int32.ofInt_toInt x
theorem rg_of (x : Int32) : rg x.toInt := ⟨Int32.le_toInt x, Int32.toInt_lt x⟩
theorem ii_add (a b : Int) : ii a + ii b = ii (a + b) := (Int32.ofInt_add a b).symm
theorem ii_sub (a b : Int) : ii a - ii b = ii (a - b) := (Int32.ofInt_sub a b).symm
theorem ii_mul (a b : Int) : ii a * ii b = ii (a * b) := (Int32.ofInt_mul a b).symm
theorem ii_neg (a : Int) : - ii a = ii (-a) := (Int32.ofInt_neg a).symm
theorem ii_le {a b : Int} (ha : rg a) (hb : rg b) : ii a ≤ ii b ↔ a ≤ b := by rw [Int32.le_iff_toInt_le, ii_toInt ha, ii_toInt hb]
theorem ii_lt {a b : Int} (ha : rg a) (hb : rg b) : ii a < ii b ↔ a < b := by rw [Int32.lt_iff_toInt_lt, ii_toInt ha, ii_toInt hb]
theorem ii_eq {a b : Int} (ha : rg a) (hb : rg b) : ii a = ii b ↔ a = b := by rw [← Int32.toInt_inj, ii_toInt ha, ii_toInt hb]
theorem ii_inj {a b : Int} (ha : rg a) (hb : rg b) (h : ii a = ii b) : a = b := (ii_eq ha hb).mp h
theorem ii_0 : ii 0 = 0 := rfl
theorem ii_clamp {z : Int} (h : rg z) : (ii z).toNatClampNeg = z.toNat := by
  show (ii z).toInt.toNat = z.toNat
  rw [ii_toInt h]
theorem ii_div {a b : Int} (ha : rg a) (hb : rg b) (h0 : 0 ≤ a) (h1 : 0 < b) : ii a / ii b = ii (a / b) := by
  have h2 : ii b ≠ -1 := by
    intro h
    have h3 := congrArg Int32.toInt h
    rw [ii_toInt hb] at h3
    have h4 : ((-1 : Int32)).toInt = -1 := rfl
    rw [h4] at h3
    omega
  apply Int32.toInt_inj.mp
  rw [Int32.toInt_div_of_ne_right _ _ h2, ii_toInt ha, ii_toInt hb, Int.tdiv_eq_ediv_of_nonneg h0]
  have h5 : 0 ≤ a / b := Int.ediv_nonneg h0 (Int.le_of_lt h1)
  have h6 : a / b ≤ a := Int.ediv_le_self b h0
  rw [ii_toInt ⟨by have := hb.1; omega, by have := ha.2; omega⟩]
theorem ii_rem {a b : Int} (ha : rg a) (hb : rg b) (h0 : 0 ≤ a) (h1 : 0 < b) : ii a - ii a / ii b * ii b = ii (a % b) := by
  rw [ii_div ha hb h0 h1, ii_mul, ii_sub, Int.emod_def, Int.mul_comm]
theorem vp_in_ii {z : Int} {n : Nat} (h : rg z) (h0 : 0 ≤ z) (h1 : z < n) : vp_in (ii z) n := by
  intro hh
  rcases hh with h2 | h2
  · rw [show (0 : Int32) = ii 0 from rfl, ii_lt h ⟨by decide, by decide⟩] at h2
    omega
  · rw [ii_clamp h] at h2
    omega
def upd2 (σ : Sg) (k : Nat) (z v : Int) : Sg := fun k' z' => if k' = k ∧ z' = z then v else σ k' z'
theorem upd2_at (σ : Sg) (k : Nat) (z v : Int) : upd2 σ k z v k z = v := if_pos ⟨rfl, rfl⟩
theorem upd2_ne {σ : Sg} {k k' : Nat} {z z' v : Int} (h : ¬ (k' = k ∧ z' = z)) : upd2 σ k z v k' z' = σ k' z' := if_neg h
/-- the cells' shapes: an array (its type's number, its length) or an object (its class's number, its fields: none an int, some a cell) -/
def shp (k : Nat) : (Nat × Nat) ⊕ (Nat × List (Option Nat)) :=
  if k < 48 then (if k % 4 = 0 then .inr (8, [some (k + 1), some (k + 2), some (k + 3), none]) else .inl (0, 40)) else
  match k with
  | 48 => .inr (4, [some 49, none, none])
  | 49 => .inl (5, 10)
  | 50 => .inr (5, [some 51, none, none, none, none])
  | 51 => .inl (1, 12)
  | 52 => .inr (7, [some 0, some 53, some 54, some 55, some 56, some 57, some 58, some 59, none])
  | 53 => .inl (0, 10)
  | 54 => .inl (0, 40)
  | 55 => .inl (0, 40)
  | 56 => .inl (0, 41)
  | 57 => .inl (0, 41)
  | 58 => .inl (0, 100)
  | 59 => .inl (0, 100)
  | 60 => .inr (6, [some 0, some 52, some 61])
  | 61 => .inl (0, 41)
  | 62 => .inr (9, [some 0, some 52, some 60])
  | 63 => .inr (3, [some 0, some 52, some 60, some 64, some 65, some 66, none, none])
  | 64 => .inl (0, 41)
  | 65 => .inl (0, 40)
  | 66 => .inl (0, 40)
  | 67 => .inr (2, [some 0, some 60, some 68, none, none])
  | 68 => .inl (2, 2048)
  | 69 => .inr (10, [some 0, some 4, some 48, some 50, some 52, some 60, some 62, some 63, some 67, none, none])
  | 70 => .inr (11, [none, some 71, some 72, none, some 73, none, some 74, none, none, some 75, some 76, none, some 77, none, none, some 78, some 79, some 80, none, none, none])
  | 71 => .inl (0, 121)
  | 72 => .inl (0, 1210)
  | 73 => .inl (0, 121)
  | 74 => .inl (1, 12)
  | 75 => .inl (0, 41)
  | 76 => .inl (0, 40)
  | 77 => .inl (0, 48)
  | 78 => .inl (2, 3000)
  | 79 => .inl (2, 3000)
  | 80 => .inl (0, 40)
  | 81 => .inl (3, 1)
  | _ => .inl (4, 1)
theorem shp_o {j : Nat} (h : j < 12) : shp (4 * j) = .inr (8, [some (4 * j + 1), some (4 * j + 2), some (4 * j + 3), none]) := by
  unfold shp
  rw [if_pos (by omega), if_pos (by omega)]
theorem shp_a1 {j : Nat} (h : j < 12) : shp (4 * j + 1) = .inl (0, 40) := by
  unfold shp
  rw [if_pos (by omega), if_neg (by omega)]
theorem shp_a2 {j : Nat} (h : j < 12) : shp (4 * j + 2) = .inl (0, 40) := by
  unfold shp
  rw [if_pos (by omega), if_neg (by omega)]
theorem shp_a3 {j : Nat} (h : j < 12) : shp (4 * j + 3) = .inl (0, 40) := by
  unfold shp
  rw [if_pos (by omega), if_neg (by omega)]
def adr (g : Gm) (k : Nat) : Nat := if k < 1000 then g.2.1 k else if k < 1100 then g.2.2.2.2.1 (k - 1000) else g.2.2.2.2.2 (k - 1100)
abbrev gA (g : Gm) : Nat → Prop := g.2.2.2.1
def vv (g : Gm) : V → Value
  | .inl z => .int (ii z)
  | .inr k => .ref (adr g k)
def encF (g : Gm) (σ : Sg) (k : Nat) : Nat → List (Option Nat) → List Value
  | _, [] => []
  | j, none :: r => .int (ii (σ k (j : Int))) :: encF g σ k (j + 1) r
  | j, some q :: r => .ref (adr g q) :: encF g σ k (j + 1) r
def enc (g : Gm) (σ : Sg) (k : Nat) : va_E := match shp k with
  | .inl (t, n) => .inl (g.2.2.1 t, n, if t = 5 then .inr (.inr (.inr (.inr (fun i => some (adr g (4 * (2 + i))))))) else if t = 3 then .inr (.inl (fun j => Int64.ofInt (σ k (j : Int)))) else if t = 4 then .inr (.inr (.inr (.inl (fun j => UInt64.ofNat (σ k (j : Int)).toNat)))) else .inl (fun j => ii (σ k (j : Int))))
  | .inr (ci, fl) => .inr (ci, encF g σ k 0 fl)
def wl (g : Gm) (σ : Sg) : va_W := (List.range 83).map (fun k => (adr g k, enc g σ k))
theorem wl_at {g : Gm} {σ : Sg} {k : Nat} (hk : k < 83) : (wl g σ)[k]? = some (adr g k, enc g σ k) := by
  simp [wl, hk]
theorem encF_at {g : Gm} {σ : Sg} {k : Nat} : ∀ (fl : List (Option Nat)) (j i : Nat), (encF g σ k j fl)[i]? = (fl[i]?).map (fun o => match o with | none => Value.int (ii (σ k ((j + i : Nat) : Int))) | some q => .ref (adr g q))
  | [], j, i => by simp [encF]
  | none :: r, j, 0 => by simp [encF]
  | some q :: r, j, 0 => by simp [encF]
  | none :: r, j, i + 1 => by
    simp only [encF, List.getElem?_cons_succ]
    rw [encF_at r (j + 1) i, show j + 1 + i = j + (i + 1) by omega]
  | some q :: r, j, i + 1 => by
    simp only [encF, List.getElem?_cons_succ]
    rw [encF_at r (j + 1) i, show j + 1 + i = j + (i + 1) by omega]
theorem encF_len {g : Gm} {σ : Sg} {k : Nat} : ∀ (fl : List (Option Nat)) (j : Nat), (encF g σ k j fl).length = fl.length
  | [], j => rfl
  | none :: r, j => by simp [encF, encF_len r]
  | some q :: r, j => by simp [encF, encF_len r]
theorem enc_o {g : Gm} {σ : Sg} {k ci : Nat} {fl : List (Option Nat)} (h : shp k = .inr (ci, fl)) : enc g σ k = .inr (ci, encF g σ k 0 fl) := by
  unfold enc; rw [h]
theorem enc_a {g : Gm} {σ : Sg} {k t n : Nat} (h : shp k = .inl (t, n)) (ht : t < 3) : enc g σ k = .inl (g.2.2.1 t, n, .inl (fun j => ii (σ k (j : Int)))) := by
  unfold enc; rw [h]; simp [show t ≠ 5 by omega, show t ≠ 3 by omega, show t ≠ 4 by omega]
theorem enc_r {g : Gm} {σ : Sg} {k n : Nat} (h : shp k = .inl (5, n)) : enc g σ k = .inl (g.2.2.1 5, n, .inr (.inr (.inr (.inr (fun i => some (adr g (4 * (2 + i)))))))) := by
  unfold enc; rw [h]; simp
theorem enc_l {g : Gm} {σ : Sg} {k n : Nat} (h : shp k = .inl (3, n)) : enc g σ k = .inl (g.2.2.1 3, n, .inr (.inl (fun j => Int64.ofInt (σ k (j : Int))))) := by
  unfold enc; rw [h]; simp
theorem enc_d {g : Gm} {σ : Sg} {k n : Nat} (h : shp k = .inl (4, n)) : enc g σ k = .inl (g.2.2.1 4, n, .inr (.inr (.inr (.inl (fun j => UInt64.ofNat (σ k (j : Int)).toNat))))) := by
  unfold enc; rw [h]; simp
theorem enc_other {g : Gm} {σ τ : Sg} {k : Nat} (h : τ k = σ k) : enc g τ k = enc g σ k := by
  have hF : ∀ (fl : List (Option Nat)) (j : Nat), encF g τ k j fl = encF g σ k j fl := by
    intro fl
    induction fl with
    | nil => intro j; rfl
    | cons a r ih =>
      intro j
      cases a with
      | none => simp only [encF, ih, h]
      | some q => simp only [encF, ih]
  unfold enc
  cases shp k with
  | inl a => simp only [h]
  | inr o => simp only [hF]
theorem wl_set {g : Gm} {σ τ : Sg} {k : Nat} {e : va_E} (hk : k < 83) (he : enc g τ k = e) (ho : ∀ j, j ≠ k → τ j = σ j) : (wl g σ).set k (adr g k, e) = wl g τ := by
  apply List.ext_getElem?
  intro i
  rw [List.getElem?_set]
  by_cases hik : k = i
  · subst hik
    rw [if_pos rfl, wl_at hk, he]
    simp [wl, hk]
  · rw [if_neg hik]
    by_cases hi : i < 83
    · rw [wl_at hi, wl_at hi, enc_other (ho i (fun e => hik e.symm))]
    · simp [wl, hi]
theorem upd2_other {σ : Sg} {k : Nat} {z v : Int} : ∀ j, j ≠ k → upd2 σ k z v j = σ j := fun j h => by
  funext z'
  exact upd2_ne (fun h2 => h h2.1)
theorem enc_upd_a {g : Gm} {σ : Sg} {k t n : Nat} {z v : Int} (h : shp k = .inl (t, n)) (ht : t < 3) (h0 : 0 ≤ z) (hz : rg z) : enc g (upd2 σ k z v) k = .inl (g.2.2.1 t, n, .inl (upd (fun j => ii (σ k (j : Int))) (ii z).toNatClampNeg (ii v))) := by
  rw [enc_a h ht, ii_clamp hz]
  congr 4
  funext j
  unfold upd upd2
  by_cases hj : j = z.toNat
  · subst hj
    rw [if_pos ⟨rfl, by omega⟩]
    simp
  · rw [if_neg (by omega), if_neg hj]
theorem encF_set {g : Gm} {σ : Sg} {k : Nat} {v : Int} : ∀ (fl : List (Option Nat)) (j i : Nat), fl[i]? = some none → (encF g σ k j fl).set i (.int (ii v)) = encF g (upd2 σ k ((j + i : Nat) : Int) v) k j fl := by
  intro fl j i h
  apply List.ext_getElem?
  intro q
  rw [List.getElem?_set, encF_at, encF_at, encF_len]
  by_cases hq : i = q
  · subst hq
    have hl : i < fl.length := (List.getElem?_eq_some_iff.mp h).1
    rw [if_pos rfl, if_pos hl, h]
    simp [upd2]
  · rw [if_neg hq]
    cases hc : fl[q]? with
    | none => rfl
    | some o =>
      cases o with
      | none =>
        simp only [Option.map_some]
        rw [upd2_ne (by omega)]
      | some x => rfl
theorem enc_upd_o {g : Gm} {σ : Sg} {k ci i : Nat} {fl : List (Option Nat)} {v : Int} (h : shp k = .inr (ci, fl)) (hi : fl[i]? = some none) : enc g (upd2 σ k (i : Int) v) k = .inr (ci, (encF g σ k 0 fl).set i (.int (ii v))) := by
  rw [enc_o h, encF_set fl 0 i hi, Nat.zero_add]
end BASE
