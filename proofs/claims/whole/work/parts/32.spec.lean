/-! What the calls answer: an abstract state, a row a method -/
section SPEC
/-- the program, what is remembered (newest first), what is saved, the input, the error kept -/
abbrev AS : Type := List It × List (List It) × Option (List It) × List Nat × Int
/-- an outcome: 0 or the number of what is thrown, the answer, the state behind -/
abbrev Rel : Type := Nat → Int → AS → Prop
abbrev R3 : Type := Nat × Int × AS
def fn (r : R3) : Rel := fun c v A => r = (c, v, A)
def uniq (R : Rel) : Prop := ∀ c v A c' v' A', R c v A → R c' v' A' → c = c' ∧ v = v' ∧ A = A'
theorem uniq_fn (r : R3) : uniq (fn r) := fun c v A c' v' A' h1 h2 => by
  unfold fn at h1 h2
  rw [h1] at h2
  cases h2
  exact ⟨rfl, rfl, rfl⟩
def okB (k o : Nat) : Bool := decide ((k = 0 ∧ 1 ≤ o ∧ o ≤ 9) ∨ (k = 1 ∧ 1 ≤ o ∧ o ≤ 50) ∨ (k = 2 ∧ o ≤ 9) ∨ (k = 3 ∧ 1 ≤ o ∧ o ≤ 4) ∨ (k = 4 ∧ o ≤ 9) ∨ (k = 5 ∧ o ≤ 9) ∨ (k = 6 ∧ o ≤ 99) ∨ (k = 7 ∧ o = 0))
theorem okB_iff (k o : Nat) : okB k o = true ↔ okI k o 0 := by
  unfold okB okI
  rw [decide_eq_true_eq]
  constructor
  · intro h; exact ⟨h, by omega, fun _ _ => rfl⟩
  · intro h; exact h.1
abbrev inI (P : List It) (z : Int) : Prop := 0 ≤ z ∧ z < (P.length : Int)
def psh (P : List It) (hs : List (List It)) : List (List It) := (P :: hs).take 10
def nT (P : List It) : Nat := cnt (fun i => decide (isT P i)) P.length
def sp_reset : AS → R3
  | (P, hs, sv, T, er) => (0, (P.length : Int), ([], [], sv, T, er))
def sp_itemCount : AS → R3
  | (P, hs, sv, T, er) => (0, (P.length : Int), (P, hs, sv, T, er))
def sp_append : AS → Nat → R3
  | (P, hs, sv, T, er), c => if c < 32 ∨ 126 < c then (1, 0, (P, hs, sv, T, er)) else if T.length = 12 then (2, 0, (P, hs, sv, T, er)) else (0, (T.length : Int) + 1, (P, hs, sv, T ++ [c], er))
def sp_insert : AS → Int → R3
  | (P, hs, sv, T, er), z => if ¬ (0 ≤ z ∧ z ≤ (P.length : Int)) then (1, 0, (P, hs, sv, [], er)) else if kR T 8 = -1 then (2, 0, (P, hs, sv, [], (eR T 8 : Int))) else if okB (kR T 8).toNat (oR T).toNat = false then (2, 0, (P, hs, sv, [], er)) else if P.length = 40 ∨ (kR T 8 = 2 ∧ dfn P (oR T).toNat P.length ≠ -1) then (3, 0, (P, hs, sv, [], er)) else (0, kR T 8, (insA P z.toNat ((kR T 8).toNat, (oR T).toNat, 0), psh P hs, sv, [], er))
def sp_errorPosition : AS → R3
  | (P, hs, sv, T, er) => if er = -1 then (1, 0, (P, hs, sv, T, er)) else (0, er, (P, hs, sv, T, er))
def sp_remove : AS → Int → R3
  | (P, hs, sv, T, er), z => if ¬ inI P z then (1, 0, (P, hs, sv, T, er)) else (0, (P.length : Int) - 1, (P.eraseIdx z.toNat, psh P hs, sv, T, er))
def sp_move : AS → Int → Int → R3
  | (P, hs, sv, T, er), z, w => if ¬ inI P z then (1, 0, (P, hs, sv, T, er)) else if ¬ inI P w then (1, 0, (P, hs, sv, T, er)) else (0, (kd P z.toNat : Int), (insA (P.eraseIdx z.toNat) w.toNat (kd P z.toNat, op P z.toNat, fm P z.toNat), psh P hs, sv, T, er))
def itV (P : List It) (i : Nat) (w : Int) : Int := if w = 0 then (kd P i : Int) else if w = 1 then (op P i : Int) else if w = 2 then (fm P i : Int) else if w = 3 then (sz P i (fm P i) (aP P i) : Int) else (aP P i : Int)
def sp_item : AS → Int → Int → R3
  | (P, hs, sv, T, er), z, w => if ¬ inI P z then (1, 0, (P, hs, sv, T, er)) else if ¬ (0 ≤ w ∧ w ≤ 4) then (2, 0, (P, hs, sv, T, er)) else (0, itV P z.toNat w, (P, hs, sv, T, er))
def sp_nameCharacter : AS → Int → Int → R3
  | (P, hs, sv, T, er), z, w => if ¬ inI P z then (1, 0, (P, hs, sv, T, er)) else if ¬ (0 ≤ w ∧ w < (nmL (kd P z.toNat) : Int)) then (2, 0, (P, hs, sv, T, er)) else (0, (nmC (kd P z.toNat) w.toNat : Int), (P, hs, sv, T, er))
def sp_setForm : AS → Int → Int → R3
  | (P, hs, sv, T, er), z, w => if ¬ inI P z then (1, 0, (P, hs, sv, T, er)) else if ¬ isT P z.toNat then (2, 0, (P, hs, sv, T, er)) else if ¬ (0 ≤ w ∧ w ≤ 2) then (2, 0, (P, hs, sv, T, er)) else (0, (fm P z.toNat : Int), (stF P z.toNat w.toNat, psh P hs, sv, T, er))
def sp_totalSize : AS → R3
  | (P, hs, sv, T, er) => (0, (tot P (fm P) : Int), (P, hs, sv, T, er))
def sp_padding : AS → R3
  | (P, hs, sv, T, er) => (0, ((alS P P.length + poS P (P.length + 1) : Nat) : Int), (P, hs, sv, T, er))
def sp_labelAddress : AS → Int → R3
  | (P, hs, sv, T, er), z => if ¬ (0 ≤ z ∧ z < 10) then (1, 0, (P, hs, sv, T, er)) else if dfn P z.toNat P.length = -1 then (2, 0, (P, hs, sv, T, er)) else (0, (aP P (dfn P z.toNat P.length).toNat : Int), (P, hs, sv, T, er))
def sp_itemAt : AS → Int → R3
  | (P, hs, sv, T, er), z => if ¬ (0 ≤ z ∧ z < (aP P P.length : Int)) then (1, 0, (P, hs, sv, T, er)) else (0, (itA P z.toNat P.length : Int), (P, hs, sv, T, er))
def sp_addressIf : AS → Int → Int → R3
  | (P, hs, sv, T, er), z, w => if ¬ inI P z then (1, 0, (P, hs, sv, T, er)) else if ¬ (0 ≤ w ∧ w ≤ 2) then (2, 0, (P, hs, sv, T, er)) else (0, (ad0 P (fun _ => w.toNat) z.toNat : Int), (P, hs, sv, T, er))
def sp_possibleAddresses : AS → Int → R3
  | (P, hs, sv, T, er), z => if ¬ inI P z then (1, 0, (P, hs, sv, T, er)) else (0, (cnt (rS P z.toNat) 2048 : Int), (P, hs, sv, T, er))
def sp_transferCount : AS → R3
  | (P, hs, sv, T, er) => (0, (nT P : Int), (P, hs, sv, T, er))
def sp_formCount : AS → Int → R3
  | (P, hs, sv, T, er), z => if ¬ (0 ≤ z ∧ z ≤ 2) then (1, 0, (P, hs, sv, T, er)) else (0, (cnt (fun i => decide (isT P i ∧ fm P i = z.toNat)) P.length : Int), (P, hs, sv, T, er))
def sp_undefinedCount : AS → R3
  | (P, hs, sv, T, er) => (0, (udf P : Int), (P, hs, sv, T, er))
/-- what a question about a transfer says -/
def sp_tr (q : List It → Nat → Int) : AS → Int → R3
  | (P, hs, sv, T, er), z => if ¬ inI P z then (1, 0, (P, hs, sv, T, er)) else if ¬ isT P z.toNat then (2, 0, (P, hs, sv, T, er)) else if dfn P (op P z.toNat) P.length = -1 then (3, 0, (P, hs, sv, T, er)) else (0, q P z.toNat, (P, hs, sv, T, er))
def q_dsp (P : List It) (i : Nat) : Int := dsp P (fm P) i
def q_fit (P : List It) (i : Nat) : Int := if ndF (dsp P (fm P) i) ≤ fm P i then 1 else 0
def q_ndF (P : List It) (i : Nat) : Int := (ndF (dsp P (fm P) i) : Int)
def sp_misfits : AS → R3
  | (P, hs, sv, T, er) => if udf P ≠ 0 then (1, 0, (P, hs, sv, T, er)) else (0, (msf P (fm P) : Int), (P, hs, sv, T, er))
def sp_relax : AS → Rel
  | (P, hs, sv, T, er), c, v, A' => (udf P ≠ 0 ∧ c = 1 ∧ v = 0 ∧ A' = (P, hs, sv, T, er)) ∨ (udf P = 0 ∧ ∃ k : Nat, c = 0 ∧ v = (k : Int) ∧ A' = (itr k (zF P), psh P hs, sv, T, er) ∧ msf (itr k (zF P)) (fm (itr k (zF P))) = 0 ∧ ∀ j, j < k → msf (itr j (zF P)) (fm (itr j (zF P))) ≠ 0)
def sp_shrink : AS → Rel
  | (P, hs, sv, T, er), c, v, A' => ((udf P ≠ 0 ∨ msf P (fm P) ≠ 0) ∧ c = 1 ∧ v = 0 ∧ A' = (P, hs, sv, T, er)) ∨ (udf P = 0 ∧ msf P (fm P) = 0 ∧ ∃ k : Nat, c = 0 ∧ v = ((psN k P).2 : Int) ∧ A' = ((psN k P).1, psh P hs, sv, T, er) ∧ (psF (psN k P).1 P.length).2 = 0 ∧ ∀ j, j < k → (psF (psN j P).1 P.length).2 ≠ 0)
/-- what a question about the best forms says -/
def sp_se (q : List It → Int) : AS → R3
  | (P, hs, sv, T, er) => if udf P ≠ 0 then (1, 0, (P, hs, sv, T, er)) else if 8 < nT P then (2, 0, (P, hs, sv, T, er)) else (0, q P, (P, hs, sv, T, er))
def sp_optimize : AS → R3
  | (P, hs, sv, T, er) => if udf P ≠ 0 then (1, 0, (P, hs, sv, T, er)) else if 8 < nT P then (2, 0, (P, hs, sv, T, er)) else (0, ((resA P).2.1 : Int), (setF P (resA P).2.2, psh P hs, sv, T, er))
def sp_poolCount : AS → R3
  | (P, hs, sv, T, er) => (0, (pno P P.length : Int), (P, hs, sv, T, er))
def sp_literalCount : AS → Int → R3
  | (P, hs, sv, T, er), z => if ¬ (0 ≤ z ∧ z ≤ (pno P P.length : Int)) then (1, 0, (P, hs, sv, T, er)) else (0, ((vals P (plc P z.toNat)).length : Int), (P, hs, sv, T, er))
def sp_lit (q : List It → Nat → Nat → Int) : AS → Int → Int → R3
  | (P, hs, sv, T, er), z, w => if ¬ (0 ≤ z ∧ z ≤ (pno P P.length : Int)) then (1, 0, (P, hs, sv, T, er)) else if ¬ (0 ≤ w ∧ w < ((vals P (plc P z.toNat)).length : Int)) then (1, 0, (P, hs, sv, T, er)) else (0, q P (plc P z.toNat) w.toNat, (P, hs, sv, T, er))
def q_val (P : List It) (q x : Nat) : Int := ((vals P q).getD x 0 : Int)
def q_lad (P : List It) (q x : Nat) : Int := (lad P q x 0 : Int)
def sp_ld (q : List It → Nat → Int) : AS → Int → R3
  | (P, hs, sv, T, er), z => if ¬ inI P z then (1, 0, (P, hs, sv, T, er)) else if kd P z.toNat ≠ 6 then (2, 0, (P, hs, sv, T, er)) else (0, q P z.toNat, (P, hs, sv, T, er))
def q_pno (P : List It) (i : Nat) : Int := (pno P i : Int)
def q_dst (P : List It) (i : Nat) : Int := dst P i 0
def sp_loads : AS → R3
  | (P, hs, sv, T, er) => (0, (cnt (fun i => decide (kd P i = 6 ∧ 60 < dst P i 0)) P.length : Int), (P, hs, sv, T, er))
def sp_slack : AS → Int → Rel
  | (P, hs, sv, T, er), z, c, v, A' => A' = (P, hs, sv, T, er) ∧ ((¬ inI P z ∧ c = 1 ∧ v = 0) ∨ (inI P z ∧ kd P z.toNat ≠ 6 ∧ c = 2 ∧ v = 0) ∨ (inI P z ∧ kd P z.toNat = 6 ∧ c = 0 ∧ ∃ m : Nat, v = (m : Int) ∧ m ≤ 50 ∧ (m = 0 ∨ dst P z.toNat m ≤ 60) ∧ ∀ q : Nat, m < q → q ≤ 50 → 60 < dst P z.toNat q))
def sp_undo : AS → R3
  | (P, [], sv, T, er) => (1, 0, (P, [], sv, T, er))
  | (_, Q :: hs, sv, T, er) => (0, (hs.length : Int), (Q, hs, sv, T, er))
def sp_save : AS → R3
  | (P, hs, _, T, er) => (0, (P.length : Int), (P, hs, some P, T, er))
def sp_restore : AS → R3
  | (P, hs, none, T, er) => (1, 0, (P, hs, none, T, er))
  | (_, _, some Q, T, er) => (0, (Q.length : Int), (Q, [], some Q, T, er))
/-- the class's cells hold A -/
def CR (σ : Sg) : AS → Prop
  | (P, hs, sv, T, er) => PR σ 0 P ∧ HR σ hs ∧ ((sv = none ∧ σ 69 9 = 0) ∨ ∃ Q, sv = some Q ∧ σ 69 9 = 1 ∧ PR σ 1 Q) ∧ TR σ T ∧ (∃ S, AM σ S S) ∧ σ 69 10 = er ∧ -1 ≤ er ∧ er ≤ 20
def CQ (σ σ' : Sg) (A : AS) : Prop := CR σ' A ∧ ∀ k, 70 ≤ k → σ' k = σ k
def SPI (R : Rel) (σ : Sg) : Int → Sg → Prop := fun z σ' => ∃ A', R 0 z A' ∧ CQ σ σ' A'
def SPX (R : Rel) (σ : Sg) (m : List String) : String → Sg → Prop := fun E σ' => ∃ c A', R (c + 1) 0 A' ∧ m[c]? = some E ∧ CQ σ σ' A'
theorem TR.so {σ τ : Sg} {T : List Nat} (h : TR σ T) (h1 : τ 50 = σ 50) (h2 : τ 51 = σ 51) : TR τ T := by
  obtain ⟨a, b, c⟩ := h
  exact ⟨a, by rw [h1]; exact b, fun i hi => by rw [h2]; exact c i hi⟩
/-- program and history may have changed -/
theorem CR.change {σ σ' : Sg} {P P' : List It} {hs hs' : List (List It)} {sv : Option (List It)} {T : List Nat} {er : Int} (h : CR σ (P, hs, sv, T, er)) (h1 : PR σ' 0 P') (h2 : HR σ' hs') (hk : ∀ k, (4 ≤ k ∧ k ≤ 7) ∨ (50 ≤ k ∧ k ≤ 51) ∨ 67 ≤ k → σ' k = σ k) : CQ σ σ' (P', hs', sv, T, er) := by
  obtain ⟨-, -, g3, g4, ⟨S, g5⟩, g6, g7, g8⟩ := h
  refine ⟨⟨h1, h2, ?_, g4.so (hk 50 (by omega)) (hk 51 (by omega)), ⟨S, g5.so (hk 67 (by omega)) (hk 68 (by omega))⟩, by rw [hk 69 (by omega)]; exact g6, g7, g8⟩, fun k h9 => hk k (by omega)⟩
  rcases g3 with ⟨a, b⟩ | ⟨Q, a, b, c⟩
  · exact Or.inl ⟨a, by rw [hk 69 (by omega)]; exact b⟩
  · exact Or.inr ⟨Q, a, by rw [hk 69 (by omega)]; exact b, c.same (fun k k1 k2 => hk k (by omega))⟩
theorem CR.refl {σ : Sg} {A : AS} (h : CR σ A) : CQ σ σ A := ⟨h, fun _ _ => rfl⟩
/-- only what is told anew may have changed -/
theorem CR.keep {σ σ' : Sg} {A : AS} (h : CR σ A) (hk : ∀ k, k ≤ 51 ∨ 67 ≤ k → σ' k = σ k) : CQ σ σ' A := by
  obtain ⟨P, hs, sv, T, er⟩ := A
  exact h.change (h.1.same (fun k _ k2 => hk k (by omega))) (h.2.1.so (fun k _ k2 => hk k (by omega))) (fun k h9 => hk k (by omega))
theorem CR.so {σ σ' : Sg} {A : AS} (h : CR σ A) (hk : SO σ σ' 52 66) : CQ σ σ' A := h.keep (fun k h9 => hk k (by omega))
theorem CR.text {σ σ' : Sg} {P : List It} {hs : List (List It)} {sv : Option (List It)} {T T' : List Nat} {er : Int} (h : CR σ (P, hs, sv, T, er)) (h1 : TR σ' T') (hk : ∀ k, k ≤ 49 ∨ 67 ≤ k → σ' k = σ k) : CQ σ σ' (P, hs, sv, T', er) := by
  obtain ⟨g1, g2, g3, g4, ⟨S, g5⟩, g6, g7, g8⟩ := h
  refine ⟨⟨g1.same (fun k _ k2 => hk k (by omega)), g2.so (fun k _ k2 => hk k (by omega)), ?_, h1, ⟨S, g5.so (hk 67 (by omega)) (hk 68 (by omega))⟩, by rw [hk 69 (by omega)]; exact g6, g7, g8⟩, fun k h9 => hk k (by omega)⟩
  rcases g3 with ⟨a, b⟩ | ⟨Q, a, b, c⟩
  · exact Or.inl ⟨a, by rw [hk 69 (by omega)]; exact b⟩
  · exact Or.inr ⟨Q, a, by rw [hk 69 (by omega)]; exact b, c.same (fun k k1 k2 => hk k (by omega))⟩
theorem CQ.trans {σ τ υ : Sg} {A : AS} (h : ∀ k, 70 ≤ k → τ k = σ k) (h2 : CQ τ υ A) : CQ σ υ A := ⟨h2.1, fun k hk => (h2.2 k hk).trans (h k hk)⟩
theorem uniq_relax (A : AS) : uniq (sp_relax A) := by
  obtain ⟨P, hs, sv, T, er⟩ := A
  intro c v A c' v' A' h1 h2
  rcases h1 with ⟨a, rfl, rfl, rfl⟩ | ⟨a, k, rfl, rfl, rfl, b, d⟩ <;> rcases h2 with ⟨a', rfl, rfl, rfl⟩ | ⟨a', k', rfl, rfl, rfl, b', d'⟩
  · exact ⟨rfl, rfl, rfl⟩
  · exact absurd a' a
  · exact absurd a a'
  · have e : k = k' := by
      rcases Nat.lt_trichotomy k k' with h | h | h
      · exact absurd b (d' k h)
      · exact h
      · exact absurd b' (d k' h)
    subst e
    exact ⟨rfl, rfl, rfl⟩
theorem uniq_shrink (A : AS) : uniq (sp_shrink A) := by
  obtain ⟨P, hs, sv, T, er⟩ := A
  intro c v A c' v' A' h1 h2
  rcases h1 with ⟨a, rfl, rfl, rfl⟩ | ⟨a, a2, k, rfl, rfl, rfl, b, d⟩ <;> rcases h2 with ⟨a', rfl, rfl, rfl⟩ | ⟨a', a2', k', rfl, rfl, rfl, b', d'⟩
  · exact ⟨rfl, rfl, rfl⟩
  · omega
  · omega
  · have e : k = k' := by
      rcases Nat.lt_trichotomy k k' with h | h | h
      · exact absurd b (d' k h)
      · exact h
      · exact absurd b' (d k' h)
    subst e
    exact ⟨rfl, rfl, rfl⟩
theorem uniq_slack (A : AS) (z : Int) : uniq (sp_slack A z) := by
  obtain ⟨P, hs, sv, T, er⟩ := A
  rintro c v A c' v' A' ⟨rfl, h1⟩ ⟨rfl, h2⟩
  rcases h1 with ⟨a, rfl, rfl⟩ | ⟨a, a2, rfl, rfl⟩ | ⟨a, a2, rfl, m, rfl, b1, b2, b3⟩ <;> rcases h2 with ⟨a', rfl, rfl⟩ | ⟨a', a2', rfl, rfl⟩ | ⟨a', a2', rfl, m', rfl, b1', b2', b3'⟩
  · exact ⟨rfl, rfl, rfl⟩
  · exact absurd a' a
  · exact absurd a' a
  · exact absurd a a'
  · exact ⟨rfl, rfl, rfl⟩
  · exact absurd a2' a2
  · exact absurd a a'
  · exact absurd a2 a2'
  · have e : m = m' := by
      rcases Nat.lt_trichotomy m m' with h | h | h
      · have := b3 m' h b1'
        omega
      · exact h
      · have := b3' m h b1
        omega
    subst e
    exact ⟨rfl, rfl, rfl⟩
end SPEC
section SPEC2
theorem CR.err {σ : Sg} {P : List It} {hs : List (List It)} {sv : Option (List It)} {T : List Nat} {er v : Int} (h : CR σ (P, hs, sv, T, er)) (h1 : -1 ≤ v) (h2 : v ≤ 20) : CQ σ (upd2 σ 69 10 v) (P, hs, sv, T, v) := by
  obtain ⟨g1, g2, g3, g4, ⟨S, g5⟩, g6, g7, g8⟩ := h
  have hk : ∀ k, k ≠ 69 → upd2 σ 69 10 v k = σ k := fun k h9 => upd2_other k h9
  refine ⟨⟨g1.same (fun k _ k2 => hk k (by omega)), g2.so (fun k _ k2 => hk k (by omega)), ?_, g4.so (hk 50 (by omega)) (hk 51 (by omega)), ⟨S, g5.so (hk 67 (by omega)) (hk 68 (by omega))⟩, upd2_at _ _ _ _, h1, h2⟩, fun k h9 => hk k (by omega)⟩
  rcases g3 with ⟨a, b⟩ | ⟨Q, a, b, c⟩
  · exact Or.inl ⟨a, by rw [upd2_ne (by decide)]; exact b⟩
  · exact Or.inr ⟨Q, a, by rw [upd2_ne (by decide)]; exact b, c.same (fun k k1 k2 => hk k (by omega))⟩
theorem CR.saved {σ σ' : Sg} {P : List It} {hs : List (List It)} {sv : Option (List It)} {T : List Nat} {er : Int} (h : CR σ (P, hs, sv, T, er)) (h1 : PR σ' 1 P) (hk : ∀ k, ¬ (4 ≤ k ∧ k ≤ 7) → σ' k = σ k) : CQ σ (upd2 σ' 69 9 1) (P, hs, some P, T, er) := by
  obtain ⟨g1, g2, g3, g4, ⟨S, g5⟩, g6, g7, g8⟩ := h
  have hk2 : ∀ k, k ≠ 69 → ¬ (4 ≤ k ∧ k ≤ 7) → upd2 σ' 69 9 1 k = σ k := fun k h9 h8 => (upd2_other k h9).trans (hk k h8)
  refine ⟨⟨g1.same (fun k _ k2 => hk2 k (by omega) (by omega)), g2.so (fun k _ k2 => hk2 k (by omega) (by omega)), Or.inr ⟨P, rfl, upd2_at _ _ _ _, h1.same (fun k k1 k2 => upd2_other k (by omega))⟩, g4.so (hk2 50 (by omega) (by omega)) (hk2 51 (by omega) (by omega)), ⟨S, g5.so (hk2 67 (by omega) (by omega)) (hk2 68 (by omega) (by omega))⟩, by rw [upd2_ne (by decide), hk 69 (by omega)]; exact g6, g7, g8⟩, fun k h9 => hk2 k (by omega) (by omega)⟩
theorem CR.aset {σ σ' : Sg} {P : List It} {hs : List (List It)} {sv : Option (List It)} {T : List Nat} {er : Int} (h : CR σ (P, hs, sv, T, er)) (h1 : ∃ S, AM σ' S S) (hk : ∀ k, k ≤ 51 ∨ 69 ≤ k → σ' k = σ k) : CQ σ σ' (P, hs, sv, T, er) := by
  obtain ⟨g1, g2, g3, g4, -, g6, g7, g8⟩ := h
  refine ⟨⟨g1.same (fun k _ k2 => hk k (by omega)), g2.so (fun k _ k2 => hk k (by omega)), ?_, g4.so (hk 50 (by omega)) (hk 51 (by omega)), h1, by rw [hk 69 (by omega)]; exact g6, g7, g8⟩, fun k h9 => hk k (by omega)⟩
  rcases g3 with ⟨a, b⟩ | ⟨Q, a, b, c⟩
  · exact Or.inl ⟨a, by rw [hk 69 (by omega)]; exact b⟩
  · exact Or.inr ⟨Q, a, by rw [hk 69 (by omega)]; exact b, c.same (fun k k1 k2 => hk k (by omega))⟩
theorem nar_z {z : Int} (h : z = 0 ∨ z = 1) : narrow .boolean (.int (ii z)) = .int (ii z) := by rcases h with rfl | rfl <;> rfl
/-- the items apart from one have no label of its -/
theorem era_lab {P : List It} {i : Nat} (h : okP P) (hi : i < P.length) (h2 : kd P i = 2) : ∀ q, q < (P.eraseIdx i).length → ¬ (kd (P.eraseIdx i) q = 2 ∧ op (P.eraseIdx i) q = op P i) := by
  intro q hq ⟨a, b⟩
  rw [era_len hi] at hq
  obtain ⟨e1, e2, -⟩ := era_at (P := P) (p := i) q
  rw [e1] at a
  rw [e2] at b
  by_cases c : q < i
  · rw [if_pos c] at a b
    have := h.2.2 q i (by omega) hi a h2 b
    omega
  · rw [if_neg c] at a b
    have := h.2.2 (q + 1) i (by omega) hi a h2 b
    omega
end SPEC2
