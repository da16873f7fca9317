/-! PURE: the start, its places -/
theorem m1S_0 : m1S 0 7 = nI 0 := by decide +kernel
theorem m1S_1 : m1S 1 0 = nI 1 := by decide +kernel
theorem m1S_2a : m1S 2 0 = en6 100010 := by decide +kernel
theorem m1S_2b : m1S 2 1 = en6 100001 := by decide +kernel
theorem m1S_2c : m1S 2 2 = en6 100050 := by decide +kernel
theorem m1S_3 : ∀ p : Nat, p < 3 → m1S 3 p = nI (p + 1) := by decide +kernel
theorem m1S_6 : m1S 6 0 = nI 0 := by decide +kernel
theorem m1S_83 : m1S 8 3 = nI 0 := by decide +kernel
theorem m1S_84 : m1S 8 4 = nI 0 := by decide +kernel
theorem m1S_85 : m1S 8 5 = nI 0 := by decide +kernel
theorem m1S_86 : m1S 8 6 = nI 0 := by decide +kernel
theorem m1S_87 : m1S 8 7 = plI 0 := by decide +kernel
theorem m1S_88 : m1S 8 8 = nI 0 := by decide +kernel
theorem m1S_9 : m1S 9 0 = nI 0 := by decide +kernel
theorem m1S_10 : ∀ k : Nat, k < 56 → m1S 10 k = nI 0 := by decide +kernel
theorem m1S_11 : m1S 11 0 = nI 0 := by decide +kernel
theorem m1S_13 : ∀ k : Nat, k < 4 → m1S 13 k = nI (if k = 0 then 2 else if k = 1 then 1 else 0) := by decide +kernel
theorem m1S_33 : ∀ s : Nat, s < 4 → m1S 33 s = nM 1 := by decide +kernel
theorem m1S_34 : ∀ s : Nat, s < 4 → m1S 34 s = nI 0 := by decide +kernel
theorem m1S_48 : ∀ s : Nat, s < 4 → m1S 48 s = nM 1 := by decide +kernel
theorem m1S_49 : ∀ s : Nat, s < 4 → m1S 49 s = nI 0 := by decide +kernel
theorem m1S_35 : ∀ k : Nat, k < 160 → m1S 35 k = nI 0 := by decide +kernel
theorem m1S_50 : ∀ k : Nat, k < 160 → m1S 50 k = nI 0 := by decide +kernel
theorem m1S_360 : m1S 36 0 = nI 0 := by decide +kernel
theorem m1S_365 : m1S 36 5 = nI 0 := by decide +kernel
theorem m1S_367 : m1S 36 7 = nI 0 := by decide +kernel
theorem m1S_369 : m1S 36 9 = nI 0 := by decide +kernel
theorem m1S_3612 : m1S 36 12 = nI 1 := by decide +kernel
theorem m1S_3613 : m1S 36 13 = nI 0 := by decide +kernel
theorem m1S_3614 : m1S 36 14 = nI 0 := by decide +kernel
theorem m1S_41 : ∀ k : Nat, k < 4 → m1S 41 k = nI (if k = 0 then 2 else if k = 1 then 1 else 0) := by decide +kernel
theorem m1S_43a : m1S 43 0 = nI 100010 := by decide +kernel
theorem m1S_43b : m1S 43 1 = nI 100001 := by decide +kernel
theorem m1S_43c : m1S 43 2 = nI 100050 := by decide +kernel
theorem m1S_44 : ∀ p : Nat, p < 4 → m1S 44 p = nI p := by decide +kernel
theorem m1S_52 : ∀ k : Nat, k < 96 → m1S 52 k = nI (wtb.getD k 0) := by decide +kernel
