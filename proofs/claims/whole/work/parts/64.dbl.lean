/-! Doubles: the average of forms -/
section DBL
def avD (s n : Nat) : UInt64 := FP.ddiv (FP.i2d (ii (s : Int))) (FP.i2d (ii (n : Int)))
def avOK (s n : Nat) : Bool := decide (avD s n &&& 0x7fffffffffffffff ≤ 0x7ff0000000000000) && decide (Op.cmpValue (FP.dcmp (avD s n) (avD s n)) .l = 0)
theorem av_all : (List.range 81).all (fun s => (List.range 40).all (fun n => avOK s (n + 1))) = true := by decide +kernel
theorem av_ok {s n : Nat} (hs : s ≤ 80) (h0 : n ≠ 0) (hn : n ≤ 40) : vf_n64 (avD s n) ∧ Op.cmpValue (FP.dcmp (avD s n) (avD s n)) .l = 0 := by
  have h1 := List.all_eq_true.mp av_all s (List.mem_range.mpr (by omega))
  have h2 := List.all_eq_true.mp h1 (n - 1) (List.mem_range.mpr (by omega))
  rw [show n - 1 + 1 = n by omega] at h2
  unfold avOK at h2
  rw [Bool.and_eq_true, decide_eq_true_eq, decide_eq_true_eq] at h2
  exact h2
end DBL
