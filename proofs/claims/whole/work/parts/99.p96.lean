/-! PURE: the start -/
def m1S : qaM := (f_X7_init qa_m0).getD qa_m0
theorem m1S_ok : f_X7_init qa_m0 = some m1S := by
  have h : (f_X7_init qa_m0).isSome = true := by decide +kernel
  unfold m1S
  cases hh : f_X7_init qa_m0 with
  | none =>
    rw [hh] at h
    cases h
  | some x => rfl
