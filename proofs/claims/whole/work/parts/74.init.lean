/-! The first state -/
section INIT
def s0 : Sg := fun k z => if k = 77 then (tbL.getD z.toNat 0).toInt else if k = 69 then (if z = 10 then -1 else 0) else if k = 70 then (if z = 8 then -1 else 0) else if k = 50 then (if z = 2 then -1 else 0) else 0
theorem cr0 : CR s0 ([], [], none, [], -1) :=
  ⟨⟨okP_nil, rfl, fun i hi => absurd hi (Nat.not_lt_zero _)⟩, ⟨by decide, by decide, by decide, rfl, fun t Q h => by simp at h⟩, Or.inl ⟨rfl, rfl⟩, ⟨by decide, rfl, fun i hi => absurd hi (Nat.not_lt_zero _)⟩, ⟨fun _ => False, ⟨by decide, by decide, by decide, by decide⟩, fun x _ => Or.inr ⟨rfl, id⟩, fun x h => h.elim⟩, rfl, by decide, by decide⟩
theorem mn0 : ∀ k : Nat, k < 8 → ∀ j : Nat, j < 6 → s0 77 (6 * (k : Int) + (j : Int)) = (nmA k j : Int) := by decide +kernel
theorem mr0 : MR s0 ([], [], none, [], -1) :=
  ⟨⟨okP_nil, rfl, fun i hi => absurd hi (Nat.not_lt_zero _)⟩, ⟨by decide, rfl, fun t Q h => by simp at h⟩, Or.inl ⟨rfl, rfl⟩, ⟨by decide, rfl, fun i hi => absurd hi (Nat.not_lt_zero _)⟩, rfl, by decide, by decide, fun k j hk hj => mn0 k hk j hj⟩
theorem hasRoom_mono {s : State} {pl : Platform} {R R' : Room} (h1 : R'.frames ≤ R.frames) (h2 : R'.cells ≤ R.cells) (h3 : R'.slots ≤ R.slots) (h4 : R'.locals ≤ R.locals) (h : s.hasRoom pl R = true) : s.hasRoom pl R' = true := by
  simp only [State.hasRoom, Bool.and_eq_true, decide_eq_true_eq] at h ⊢
  obtain ⟨⟨⟨⟨a1, a2, a3, a4, a5, a6⟩, a7⟩, a8⟩, a9⟩ := h
  exact ⟨⟨⟨⟨by omega, by omega, by omega, by omega, by omega, a6⟩, by omega⟩, by omega⟩, a9⟩
theorem W_room {p : Program} {l : Launch} {e : Env} {R R' : Room} {s : State} {m : MethodId} {args : Array Value} {below : List Frame} {meth : Method} {c : Code} {H : Heap} {locs : List Loc} {cells slots : Nat} {Q : State → Prop} {g : JFrame} (h1 : R'.frames ≤ R.frames) (h2 : R'.cells ≤ R.cells) (h3 : R'.slots ≤ R.slots) (h4 : R'.locals ≤ R.locals) (k : W p l e R' s m args below meth c H locs cells slots Q g) : W p l e R s m args below meth c H locs cells slots Q g :=
  fun T hT X => k T hT ⟨X.admits, X.cas, X.clock, X.frames, hasRoom_mono h1 h2 h3 h4 X.room, X.hears, X.method, X.code, X.here, X.tail, X.warmed, X.limits, X.bytes, X.same⟩
end INIT
