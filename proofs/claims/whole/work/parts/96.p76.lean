/-! PURE: the reference's step between two values, and what it opens -/
theorem UM.g {m x : qaM} {N op e q e2 q2 : Nat} {h o : List Nat} (u : UM m x N h o op e q) {y : qaM} (hr : r7F x y) (h26 : y 36 26 = nI e2) (h27 : y 36 27 = nI q2) : UM m y N h o op e2 q2 := by
  obtain ⟨u1, u2, u3, u4, u5, u6, u7, u8, u9⟩ := u
  refine ⟨u1.r7 hr, ?_, h26, h27, ?_, ?_, ?_, ?_, ?_⟩
  · rw [hr.2 12 (by omega), u2]
  · rw [hr.2 32 (by omega), u5]
  · rw [hr.2 33 (by omega), u6]
  · rw [hr.2 34 (by omega), u7]
  · exact u8.cg (fun i _ => by rw [hr.1 53 (by decide)])
  · intro i hi
    rw [hr.1 43 (by decide)]
    exact u9 i hi
theorem ropens {m x : qaM} {N e q t : Nat} {h o : List Nat} (u : UM m x N h o (opN h) e q) (hh : h.length < 200) (ht : opC t = 1) (h5 : opN h ≤ 5) :
    (opN h = 5 ∧ f_X7_opensOne x (nI t) = some (nI 0, x)) ∨ (opN h ≠ 5 ∧ ∃ x2, f_X7_opensOne x (nI t) = some (nI 1, x2) ∧ UM m x2 N (t :: h) o (opN (t :: h)) e q) := by
  have u6 := u.2.2.2.2.2.1
  by_cases z : opN h = 5
  · refine Or.inl ⟨z, ?_⟩
    unfold f_X7_opensOne
    simp only [li_0, li_1, li_2, li_3, li_4, li_5, li_6, li_7, li_8, li_9, li_10, li_11, li_12, li_13, li_14, li_15, li_16, li_17, li_18, li_19, li_20, li_30, li_31, li_32, li_33, li_40, li_41, li_42, li_43, li_45, li_48, li_56, li_57, li_59, li_60, li_61, li_64, li_91, li_97, li_99, li_100, li_122, li_150, li_160, li_200, li_201, li_255, li_300, li_303, li_304, li_305, li_306, li_312, li_400, li_500, li_999, li_1003, li_3099, li_99999, li_100000, li_1000000, li_65, li_23, li_neg]
    rw [u6, ic_eq_t z]
  · have ho : opN (t :: h) = opN h + 1 := by
      show opC t + opN h = _
      omega
    obtain ⟨x2, d1, d2⟩ := rholds (t := t) (u.opn (op2 := opN h + 1)) hh
    refine Or.inr ⟨z, x2, ?_, by rw [ho]; exact d2⟩
    unfold f_X7_opensOne
    simp only [li_0, li_1, li_2, li_3, li_4, li_5, li_6, li_7, li_8, li_9, li_10, li_11, li_12, li_13, li_14, li_15, li_16, li_17, li_18, li_19, li_20, li_30, li_31, li_32, li_33, li_40, li_41, li_42, li_43, li_45, li_48, li_56, li_57, li_59, li_60, li_61, li_64, li_91, li_97, li_99, li_100, li_122, li_150, li_160, li_200, li_201, li_255, li_300, li_303, li_304, li_305, li_306, li_312, li_400, li_500, li_999, li_1003, li_3099, li_99999, li_100000, li_1000000, li_65, li_23, li_neg]
    rw [u6, ic_eq_f z (by omega) (by omega), pu_add, pu_let, d1]
    rfl
/-- the rank a sign unwinds to -/
def rkU (v : Nat) : Nat := if rkN v = 4 then 5 else rkN v
theorem rbetw {m x : qaM} {N e q v : Nat} {h o : List Nat} (u : UM m x N h o (opN h) e q) (hN : N < 6) (hl : h.length + o.length < 199) (hc : ∀ t ∈ h, t < 2 ^ 30) (hv : 11 ≤ v ∧ v ≤ 18 ∧ v ≠ 13) :
    ∃ x2, ((rkN v = 4 ∧ tp4 (unw 5 h o).1 = true ∧ f_X7_between x (nI v) = some (nI 0, x2) ∧ UM m x2 N (unw 5 h o).1 (unw 5 h o).2 (opN (unw 5 h o).1) e q) ∨
      (¬ (rkN v = 4 ∧ tp4 (unw 5 h o).1 = true) ∧ f_X7_between x (nI v) = some (nI 1, x2) ∧ UM m x2 N (v :: (unw (rkU v) h o).1) (unw (rkU v) h o).2 (opN (v :: (unw (rkU v) h o).1)) e q)) := by
  have hv1 : 1 ≤ rkN v := by
    have : v = 11 ∨ v = 12 ∨ v = 14 ∨ v = 15 ∨ v = 16 ∨ v = 17 ∨ v = 18 := by omega
    rcases this with rfl | rfl | rfl | rfl | rfl | rfl | rfl <;> decide
  have hv7 := rkN_le v
  have hoc : opC v = 0 := if_neg (by omega)
  have h55 : ∀ (x1 : qaM) (h1 o1 : List Nat), UM m x1 N h1 o1 (opN h1) e q → h1.length < 200 → ∃ x2, b_X7_between_55 x1 (nI v) = some (nI 1, x2) ∧ UM m x2 N (v :: h1) o1 (opN (v :: h1)) e q := by
    intro x1 h1 o1 u1 hl1
    obtain ⟨x2, d1, d2⟩ := rholds (t := v) u1 hl1
    refine ⟨x2, ?_, ?_⟩
    · unfold b_X7_between_55
      simp only [li_0, li_1, li_2, li_3, li_4, li_5, li_6, li_7, li_8, li_9, li_10, li_11, li_12, li_13, li_14, li_15, li_16, li_17, li_18, li_19, li_20, li_30, li_31, li_32, li_33, li_40, li_41, li_42, li_43, li_45, li_48, li_56, li_57, li_59, li_60, li_61, li_64, li_91, li_97, li_99, li_100, li_122, li_150, li_160, li_200, li_201, li_255, li_300, li_303, li_304, li_305, li_306, li_312, li_400, li_500, li_999, li_1003, li_3099, li_99999, li_100000, li_1000000, li_65, li_23, li_neg]
      rw [d1]
      rfl
    · have : opN (v :: h1) = opN h1 := by
        show opC v + opN h1 = _
        omega
      rw [this]
      exact d2
  by_cases z : rkN v = 4
  · have hu : rkU v = 5 := if_pos z
    obtain ⟨x1, d1, d2⟩ := runw (r := 5) u hN (by omega) (by omega) (by omega) hc
    have hlen := unw_len 5 h o
    have hst : f_X7_between x (nI v) = b_X7_between_17 x (nI v) (nI 5) := by
      unfold f_X7_between
      simp only [li_0, li_1, li_2, li_3, li_4, li_5, li_6, li_7, li_8, li_9, li_10, li_11, li_12, li_13, li_14, li_15, li_16, li_17, li_18, li_19, li_20, li_30, li_31, li_32, li_33, li_40, li_41, li_42, li_43, li_45, li_48, li_56, li_57, li_59, li_60, li_61, li_64, li_91, li_97, li_99, li_100, li_122, li_150, li_160, li_200, li_201, li_255, li_300, li_303, li_304, li_305, li_306, li_312, li_400, li_500, li_999, li_1003, li_3099, li_99999, li_100000, li_1000000, li_65, li_23, li_neg]
      rw [rrank (by omega), Option.bind_some, ic_eq_t z]
    have hcc := unw_all (P := fun t => t < 2 ^ 30) 5 h o hc
    obtain ⟨x2, f1, f2⟩ := h55 x1 _ _ d2 (by omega)
    have u5 := d2.2.2.2.2.1
    have u8 := d2.2.2.2.2.2.2.2.1
    rw [hst, hu]
    cases hh : (unw 5 h o).1 with
    | nil =>
      rw [hh] at u5 f2
      refine ⟨x2, Or.inr ⟨(fun w => absurd w.2 (by decide)), ?_, f2⟩⟩
      unfold b_X7_between_17
      simp only [li_0, li_1, li_2, li_3, li_4, li_5, li_6, li_7, li_8, li_9, li_10, li_11, li_12, li_13, li_14, li_15, li_16, li_17, li_18, li_19, li_20, li_30, li_31, li_32, li_33, li_40, li_41, li_42, li_43, li_45, li_48, li_56, li_57, li_59, li_60, li_61, li_64, li_91, li_97, li_99, li_100, li_122, li_150, li_160, li_200, li_201, li_255, li_300, li_303, li_304, li_305, li_306, li_312, li_400, li_500, li_999, li_1003, li_3099, li_99999, li_100000, li_1000000, li_65, li_23, li_neg]
      rw [d1, Option.bind_some, rrank (by omega), Option.bind_some, ic_eq_t z, u5, List.length_nil, ic_le_t (Nat.zero_le _) (by omega), f1]
    | cons t s =>
      rw [hh] at u5 u8 hcc hlen f2
      rw [List.length_cons] at u5 hlen
      have hgo : b_X7_between_17 x (nI v) (nI 5) = if rkN t = 4 then some (nI 0, x1) else b_X7_between_55 x1 (nI v) := by
        unfold b_X7_between_17
        simp only [li_0, li_1, li_2, li_3, li_4, li_5, li_6, li_7, li_8, li_9, li_10, li_11, li_12, li_13, li_14, li_15, li_16, li_17, li_18, li_19, li_20, li_30, li_31, li_32, li_33, li_40, li_41, li_42, li_43, li_45, li_48, li_56, li_57, li_59, li_60, li_61, li_64, li_91, li_97, li_99, li_100, li_122, li_150, li_160, li_200, li_201, li_255, li_300, li_303, li_304, li_305, li_306, li_312, li_400, li_500, li_999, li_1003, li_3099, li_99999, li_100000, li_1000000, li_65, li_23, li_neg]
        rw [d1, Option.bind_some, rrank (by omega), Option.bind_some, ic_eq_t z, u5, ic_le_f (by omega) (by omega), pu_sub (by omega), show s.length + 1 - 1 = s.length by omega, pu_in (by omega) (by omega), pu_ck, pu_cl (by omega), u8.1, rrank (hcc t (List.mem_cons_self ..)), Option.bind_some]
        have := rkN_le t
        by_cases y : rkN t = 4
        · rw [ic_eq_t y, if_pos y]
        · rw [ic_eq_f y (by omega) (by omega), if_neg y]
      rw [hgo]
      by_cases y : rkN t = 4
      · rw [hh] at d2
        exact ⟨x1, Or.inl ⟨z, decide_eq_true y, if_pos y, d2⟩⟩
      · exact ⟨x2, Or.inr ⟨fun w => y (of_decide_eq_true w.2), by rw [if_neg y]; exact f1, f2⟩⟩
  · have hu : rkU v = rkN v := if_neg z
    obtain ⟨x1, d1, d2⟩ := runw (r := rkN v) u hN hv1 (by omega) (by omega) hc
    have hlen := unw_len (rkN v) h o
    obtain ⟨x2, f1, f2⟩ := h55 x1 _ _ d2 (by omega)
    refine ⟨x2, Or.inr ⟨fun w => z w.1, ?_, by rw [hu]; exact f2⟩⟩
    unfold f_X7_between b_X7_between_17
    simp only [li_0, li_1, li_2, li_3, li_4, li_5, li_6, li_7, li_8, li_9, li_10, li_11, li_12, li_13, li_14, li_15, li_16, li_17, li_18, li_19, li_20, li_30, li_31, li_32, li_33, li_40, li_41, li_42, li_43, li_45, li_48, li_56, li_57, li_59, li_60, li_61, li_64, li_91, li_97, li_99, li_100, li_122, li_150, li_160, li_200, li_201, li_255, li_300, li_303, li_304, li_305, li_306, li_312, li_400, li_500, li_999, li_1003, li_3099, li_99999, li_100000, li_1000000, li_65, li_23, li_neg]
    rw [rrank (by omega), Option.bind_some, ic_eq_f z (by omega) (by omega), Option.bind_some, d1, Option.bind_some, rrank (by omega), Option.bind_some, ic_eq_f z (by omega) (by omega), f1]
theorem tknd_c (B : Nat → Nat) (L p : Nat) : tknd B L p < 3 ∨ (40 ≤ tknd B L p ∧ tknd B L p ≤ 61 ∧ isSi (tknd B L p) = true) ∨ (300 ≤ tknd B L p ∧ tknd B L p < 312) := by
  have h := tknd_ok B L p
  unfold tkP at h
  rcases h with ⟨_, h⟩ | ⟨_, _, ⟨w, w1, _, h⟩ | ⟨_, h⟩⟩ | ⟨_, _, _, h⟩ | ⟨_, _, _, h⟩
  · omega
  · omega
  · omega
  · split at h <;> omega
  · by_cases z : isSi (B (plK B L p)) = true
    · rw [if_pos z] at h
      have h3 := of_decide_eq_true z
      rw [h]
      exact Or.inr (Or.inl ⟨by omega, by omega, z⟩)
    · rw [if_neg z] at h
      omega
theorem rsign {m : qaM} {k : Nat} (hk : k < 3 ∨ (40 ≤ k ∧ k < 400)) (h : m 36 28 = rK k) : f_X7_signOf m = some (if sgN k = 0 then nM 1 else nI (sgN k)) := by
  have hall : ∀ k : Nat, k < 400 → (k < 3 ∨ 40 ≤ k) → (if rK k = nI 4 then some (nI 11) else if rK k = nI 5 then some (nI 12) else if rK k = nI 60 then some (nI 14) else if rK k = nI 61 then some (nI 15) else if rK k = nI 43 then some (nI 16) else if rK k = nI 45 then some (nI 17) else if rK k = nI 42 then some (nI 18) else some (nM 1)) = some (if sgN k = 0 then nM 1 else nI (sgN k)) := by decide +kernel
  unfold f_X7_signOf
  simp only [li_0, li_1, li_2, li_3, li_4, li_5, li_6, li_7, li_8, li_9, li_10, li_11, li_12, li_13, li_14, li_15, li_16, li_17, li_18, li_19, li_20, li_30, li_31, li_32, li_33, li_40, li_41, li_42, li_43, li_45, li_48, li_56, li_57, li_59, li_60, li_61, li_64, li_91, li_97, li_99, li_100, li_122, li_150, li_160, li_200, li_201, li_255, li_300, li_303, li_304, li_305, li_306, li_312, li_400, li_500, li_999, li_1003, li_3099, li_99999, li_100000, li_1000000, li_65, li_23, li_neg]
  rw [h]
  exact hall k (by omega) (by omega)
