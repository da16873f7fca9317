/-! PURE: taken, image, back -/
def isT (q1 v2 : Int32) : Option Int32 := if q1 = v2 then some (nI 1) else if v2 = nI 0 then some (nI 1) else if q1 = nI 3 then (if v2 = nI 1 then some (nI 1) else (if q1 = nI 4 then (if v2 = nI 2 then some (nI 1) else some (nI 0)) else some (nI 0))) else (if q1 = nI 4 then (if v2 = nI 2 then some (nI 1) else some (nI 0)) else some (nI 0))
theorem isT_all : ∀ o : Nat, o < 6 → ∀ k : Nat, k < 6 → isT (nI o) (nI k) = f_X7_isUnder qa_m0 (nI o) (nI k) ∧ (isT (nI o) (nI k) = some (nI 1) ∨ isT (nI o) (nI k) = some (nI 0)) := by decide +kernel
theorem isU_m (m : qaM) (a b : Int32) : f_X7_isUnder m a b = f_X7_isUnder qa_m0 a b := rfl
theorem kisOne {m : qaM} {H : HS} {i k : Nat} (c : CH m 8 H) (hi : i < 8) : f_X1_isOne 9 m (nI i) (nI k) = isT (nI (H.A i 0)) (nI k) := by
  have hf := cfact (h := 8) (i := i) (k := 0) c hi (by omega) (by omega)
  unfold f_X1_isOne isT b_X1_isOne_26 b_X1_isOne_36
  simp only [li_0, li_1, li_2, li_3, li_4, li_5, li_6, li_7, li_8, li_9, li_10, li_11, li_12, li_13, li_14, li_15, li_16, li_17, li_18, li_19, li_20, li_30, li_31, li_32, li_33, li_40, li_41, li_42, li_43, li_45, li_48, li_56, li_57, li_59, li_60, li_61, li_64, li_91, li_97, li_99, li_100, li_122, li_150, li_160, li_200, li_201, li_255, li_300, li_303, li_304, li_305, li_306, li_312, li_400, li_500, li_999, li_1003, li_3099, li_99999, li_100000, li_1000000, li_65, li_23, li_neg]
  rw [hf, Option.bind_some]
theorem qp_taken : qaP_taken Rel := by
  intro m a b h
  obtain ⟨H, N, S, hD⟩ := h
  have ⟨c, r, v, _, _, t, _, _, _⟩ := hD
  have n8 := v.n8
  have p8 := v.len8
  rcases upTo 6 7 rfl (by omega) b with ⟨k, hk, rfl⟩ | hx
  rotate_left
  · refine ⟨nM 2, ?_, ?_, Rel.mk hD⟩
    · unfold f_X6_taken
      simp only [li_0, li_1, li_2, li_3, li_4, li_5, li_6, li_7, li_8, li_9, li_10, li_11, li_12, li_13, li_14, li_15, li_16, li_17, li_18, li_19, li_20, li_30, li_31, li_32, li_33, li_40, li_41, li_42, li_43, li_45, li_48, li_56, li_57, li_59, li_60, li_61, li_64, li_91, li_97, li_99, li_100, li_122, li_150, li_160, li_200, li_201, li_255, li_300, li_303, li_304, li_305, li_306, li_312, li_400, li_500, li_999, li_1003, li_3099, li_99999, li_100000, li_1000000, li_65, li_23, li_neg]
      rcases hx with ⟨h1, h2, h3, h4, h5, h6⟩ | ⟨h1, h2, h3, h4, h5, h6⟩
      · rw [if_pos (of_eq_true h1)]
      · rw [if_neg (of_eq_false h1), if_neg (of_eq_false h2)]
    · unfold f_X7_taken
      simp only [li_0, li_1, li_2, li_3, li_4, li_5, li_6, li_7, li_8, li_9, li_10, li_11, li_12, li_13, li_14, li_15, li_16, li_17, li_18, li_19, li_20, li_30, li_31, li_32, li_33, li_40, li_41, li_42, li_43, li_45, li_48, li_56, li_57, li_59, li_60, li_61, li_64, li_91, li_97, li_99, li_100, li_122, li_150, li_160, li_200, li_201, li_255, li_300, li_303, li_304, li_305, li_306, li_312, li_400, li_500, li_999, li_1003, li_3099, li_99999, li_100000, li_1000000, li_65, li_23, li_neg]
      rw [hx.in7, Option.bind_some, if_pos rfl]
  rcases upTo 15 16 rfl (by omega) a with ⟨i, hi, rfl⟩ | hx
  rotate_left
  · refine ⟨nM 12, ?_, ?_, Rel.mk hD⟩
    · unfold f_X6_taken
      simp only [li_0, li_1, li_2, li_3, li_4, li_5, li_6, li_7, li_8, li_9, li_10, li_11, li_12, li_13, li_14, li_15, li_16, li_17, li_18, li_19, li_20, li_30, li_31, li_32, li_33, li_40, li_41, li_42, li_43, li_45, li_48, li_56, li_57, li_59, li_60, li_61, li_64, li_91, li_97, li_99, li_100, li_122, li_150, li_160, li_200, li_201, li_255, li_300, li_303, li_304, li_305, li_306, li_312, li_400, li_500, li_999, li_1003, li_3099, li_99999, li_100000, li_1000000, li_65, li_23, li_neg]
      rw [if_neg (nI_nlt (Nat.zero_le _) (by omega)), if_pos (nI_le hk (by omega))]
      rcases hx with ⟨h1, h2, h3, h4, h5, h6⟩ | ⟨h1, h2, h3, h4, h5, h6⟩
      · rw [if_pos (of_eq_true h1)]
      · rw [if_neg (of_eq_false h1), if_neg (of_eq_false h5)]
    · unfold f_X7_taken
      simp only [li_0, li_1, li_2, li_3, li_4, li_5, li_6, li_7, li_8, li_9, li_10, li_11, li_12, li_13, li_14, li_15, li_16, li_17, li_18, li_19, li_20, li_30, li_31, li_32, li_33, li_40, li_41, li_42, li_43, li_45, li_48, li_56, li_57, li_59, li_60, li_61, li_64, li_91, li_97, li_99, li_100, li_122, li_150, li_160, li_200, li_201, li_255, li_300, li_303, li_304, li_305, li_306, li_312, li_400, li_500, li_999, li_1003, li_3099, li_99999, li_100000, li_1000000, li_65, li_23, li_neg]
      rw [in7_ok hk (by omega), Option.bind_some, if_neg n10, hx.in7, Option.bind_some, if_pos rfl]
  have h5 : m 36 5 = nI H.P.length := r.2.1.1
  have h0 : m 36 0 = nI H.n := r.2.2.2.1
  rcases Nat.lt_or_ge i 8 with q | q
  · have hpl := isPlace_ok (c := 11) (j := i) c.2.1 (by omega)
    rcases Nat.lt_or_ge i H.P.length with y | y
    rotate_left
    · refine ⟨nM 11, ?_, ?_, Rel.mk hD⟩
      · unfold f_X6_taken
        simp only [li_0, li_1, li_2, li_3, li_4, li_5, li_6, li_7, li_8, li_9, li_10, li_11, li_12, li_13, li_14, li_15, li_16, li_17, li_18, li_19, li_20, li_30, li_31, li_32, li_33, li_40, li_41, li_42, li_43, li_45, li_48, li_56, li_57, li_59, li_60, li_61, li_64, li_91, li_97, li_99, li_100, li_122, li_150, li_160, li_200, li_201, li_255, li_300, li_303, li_304, li_305, li_306, li_312, li_400, li_500, li_999, li_1003, li_3099, li_99999, li_100000, li_1000000, li_65, li_23, li_neg]
        rw [if_neg (nI_nlt (Nat.zero_le _) (by omega)), if_pos (nI_le hk (by omega)), if_neg (nI_nlt (Nat.zero_le _) (by omega)), if_pos (nI_lt (by omega) (by omega)), if_pos (nI_lt q (by omega)), hpl, if_neg (by omega), Option.bind_some, if_pos rfl]
      · unfold f_X7_taken
        simp only [li_0, li_1, li_2, li_3, li_4, li_5, li_6, li_7, li_8, li_9, li_10, li_11, li_12, li_13, li_14, li_15, li_16, li_17, li_18, li_19, li_20, li_30, li_31, li_32, li_33, li_40, li_41, li_42, li_43, li_45, li_48, li_56, li_57, li_59, li_60, li_61, li_64, li_91, li_97, li_99, li_100, li_122, li_150, li_160, li_200, li_201, li_255, li_300, li_303, li_304, li_305, li_306, li_312, li_400, li_500, li_999, li_1003, li_3099, li_99999, li_100000, li_1000000, li_65, li_23, li_neg]
        rw [in7_ok hk (by omega), Option.bind_some, if_neg n10, in7_ok hi (by omega), Option.bind_some, if_neg n10, if_pos (nI_lt q (by omega)), h5, if_neg (nI_nlt y (by omega))]
    have hat := at_ok (c := 11) c.2.1 y
    have hx8 := v.i8 _ (getD_mem y)
    have hxn := v.lt _ (getD_mem y)
    have h40 : m 40 i = nI (H.P.getD i 0) := r.2.1.2.2 i y
    by_cases k6 : k = 6
    · refine ⟨nM 13, ?_, ?_, Rel.mk hD⟩
      · unfold f_X6_taken
        simp only [li_0, li_1, li_2, li_3, li_4, li_5, li_6, li_7, li_8, li_9, li_10, li_11, li_12, li_13, li_14, li_15, li_16, li_17, li_18, li_19, li_20, li_30, li_31, li_32, li_33, li_40, li_41, li_42, li_43, li_45, li_48, li_56, li_57, li_59, li_60, li_61, li_64, li_91, li_97, li_99, li_100, li_122, li_150, li_160, li_200, li_201, li_255, li_300, li_303, li_304, li_305, li_306, li_312, li_400, li_500, li_999, li_1003, li_3099, li_99999, li_100000, li_1000000, li_65, li_23, li_neg]
        rw [if_neg (nI_nlt (Nat.zero_le _) (by omega)), if_pos (nI_le hk (by omega)), if_neg (nI_nlt (Nat.zero_le _) (by omega)), if_pos (nI_lt (by omega) (by omega)), if_pos (nI_lt q (by omega)), hpl, if_pos y, Option.bind_some, if_neg n10, hat, Option.bind_some, k6, if_pos rfl]
      · unfold f_X7_taken
        simp only [li_0, li_1, li_2, li_3, li_4, li_5, li_6, li_7, li_8, li_9, li_10, li_11, li_12, li_13, li_14, li_15, li_16, li_17, li_18, li_19, li_20, li_30, li_31, li_32, li_33, li_40, li_41, li_42, li_43, li_45, li_48, li_56, li_57, li_59, li_60, li_61, li_64, li_91, li_97, li_99, li_100, li_122, li_150, li_160, li_200, li_201, li_255, li_300, li_303, li_304, li_305, li_306, li_312, li_400, li_500, li_999, li_1003, li_3099, li_99999, li_100000, li_1000000, li_65, li_23, li_neg]
        rw [in7_ok hk (by omega), Option.bind_some, if_neg n10, in7_ok hi (by omega), Option.bind_some, if_neg n10, if_pos (nI_lt q (by omega)), h5, if_pos (nI_lt y (by omega)), if_pos (nI_le (by omega) (by omega))]
    · have a0 := (v.av (H.P.getD i 0)).1
      have hone := kisOne (k := k) c hx8
      obtain ⟨t1, t2⟩ := isT_all (H.A (H.P.getD i 0) 0) (by omega) k (by omega)
      have h37 : m 37 (H.P.getD i 0) = nI (H.A (H.P.getD i 0) 0) := r.1.1 _ hxn
      obtain ⟨ans, hans⟩ : ∃ ans : Int32, ∀ b, isT (nI (H.A (H.P.getD i 0) 0)) (nI k) = some b → ans = if b = nI 0 then nM 13 else nI (H.P.getD i 0) := by
        rcases t2 with w | w
        · refine ⟨nI (H.P.getD i 0), fun b hb => ?_⟩
          rw [w] at hb
          rw [← Option.some.inj hb, if_neg n10]
        · refine ⟨nM 13, fun b hb => ?_⟩
          rw [w] at hb
          rw [← Option.some.inj hb, if_pos rfl]
      refine ⟨ans, ?_, ?_, Rel.mk hD⟩
      · unfold f_X6_taken
        simp only [li_0, li_1, li_2, li_3, li_4, li_5, li_6, li_7, li_8, li_9, li_10, li_11, li_12, li_13, li_14, li_15, li_16, li_17, li_18, li_19, li_20, li_30, li_31, li_32, li_33, li_40, li_41, li_42, li_43, li_45, li_48, li_56, li_57, li_59, li_60, li_61, li_64, li_91, li_97, li_99, li_100, li_122, li_150, li_160, li_200, li_201, li_255, li_300, li_303, li_304, li_305, li_306, li_312, li_400, li_500, li_999, li_1003, li_3099, li_99999, li_100000, li_1000000, li_65, li_23, li_neg]
        rw [if_neg (nI_nlt (Nat.zero_le _) (by omega)), if_pos (nI_le hk (by omega)), if_neg (nI_nlt (Nat.zero_le _) (by omega)), if_pos (nI_lt (by omega) (by omega)), if_pos (nI_lt q (by omega)), hpl, if_pos y, Option.bind_some, if_neg n10, hat, Option.bind_some, if_neg (fun w => k6 ((nI_eq (by omega) (by omega)).mp w)), hone]
        rcases t2 with w | w
        · rw [w, Option.bind_some, if_neg n10, hans _ w, if_neg n10]
        · rw [w, Option.bind_some, if_pos rfl, hans _ w, if_pos rfl]
      · unfold f_X7_taken
        simp only [li_0, li_1, li_2, li_3, li_4, li_5, li_6, li_7, li_8, li_9, li_10, li_11, li_12, li_13, li_14, li_15, li_16, li_17, li_18, li_19, li_20, li_30, li_31, li_32, li_33, li_40, li_41, li_42, li_43, li_45, li_48, li_56, li_57, li_59, li_60, li_61, li_64, li_91, li_97, li_99, li_100, li_122, li_150, li_160, li_200, li_201, li_255, li_300, li_303, li_304, li_305, li_306, li_312, li_400, li_500, li_999, li_1003, li_3099, li_99999, li_100000, li_1000000, li_65, li_23, li_neg]
        rw [in7_ok hk (by omega), Option.bind_some, if_neg n10, in7_ok hi (by omega), Option.bind_some, if_neg n10, if_pos (nI_lt q (by omega)), h5, if_pos (nI_lt y (by omega)), if_neg (fun w => absurd ((nI_leI (by omega) (by omega)).mp w) (by omega)), pu_in (by omega) (by omega), pu_ck, pu_cl (by omega), h40, pu_in (by omega) (by omega), pu_ck, pu_cl (by omega), h37, isU_m, ← t1]
        rcases t2 with w | w
        · rw [w, Option.bind_some, if_neg n10, pu_ck, hans _ w, if_neg n10]
        · rw [w, Option.bind_some, if_pos rfl, hans _ w, if_pos rfl]
  · have hsub : nI i - nI 8 = nI (i - 8) := pu_sub q
    have hil := kisLinen (i := i - 8) c (by omega)
    rcases Nat.lt_or_ge (i - 8) H.n with y | y
    rotate_left
    · refine ⟨nM 11, ?_, ?_, Rel.mk hD⟩
      · unfold f_X6_taken
        simp only [li_0, li_1, li_2, li_3, li_4, li_5, li_6, li_7, li_8, li_9, li_10, li_11, li_12, li_13, li_14, li_15, li_16, li_17, li_18, li_19, li_20, li_30, li_31, li_32, li_33, li_40, li_41, li_42, li_43, li_45, li_48, li_56, li_57, li_59, li_60, li_61, li_64, li_91, li_97, li_99, li_100, li_122, li_150, li_160, li_200, li_201, li_255, li_300, li_303, li_304, li_305, li_306, li_312, li_400, li_500, li_999, li_1003, li_3099, li_99999, li_100000, li_1000000, li_65, li_23, li_neg]
        rw [if_neg (nI_nlt (Nat.zero_le _) (by omega)), if_pos (nI_le hk (by omega)), if_neg (nI_nlt (Nat.zero_le _) (by omega)), if_pos (nI_lt (by omega) (by omega)), if_neg (nI_nlt q (by omega)), hsub, pu_let, hil, if_neg (by omega), Option.bind_some, if_pos rfl]
      · unfold f_X7_taken
        simp only [li_0, li_1, li_2, li_3, li_4, li_5, li_6, li_7, li_8, li_9, li_10, li_11, li_12, li_13, li_14, li_15, li_16, li_17, li_18, li_19, li_20, li_30, li_31, li_32, li_33, li_40, li_41, li_42, li_43, li_45, li_48, li_56, li_57, li_59, li_60, li_61, li_64, li_91, li_97, li_99, li_100, li_122, li_150, li_160, li_200, li_201, li_255, li_300, li_303, li_304, li_305, li_306, li_312, li_400, li_500, li_999, li_1003, li_3099, li_99999, li_100000, li_1000000, li_65, li_23, li_neg]
        rw [in7_ok hk (by omega), Option.bind_some, if_neg n10, in7_ok hi (by omega), Option.bind_some, if_neg n10, if_neg (nI_nlt q (by omega)), hsub, h0, if_neg (nI_nlt y (by omega))]
    by_cases k6 : k = 6
    · have hf := cfact (h := 8) (i := i - 8) (k := 2) c (by omega) (by omega) (by omega)
      have hrow : m 39 (6 * (i - 8)) = nI (H.A (i - 8) 2) := r7row r y (k := 0) (by omega) (by omega)
      refine ⟨nI (H.A (i - 8) 2), ?_, ?_, Rel.mk hD⟩
      · unfold f_X6_taken
        simp only [li_0, li_1, li_2, li_3, li_4, li_5, li_6, li_7, li_8, li_9, li_10, li_11, li_12, li_13, li_14, li_15, li_16, li_17, li_18, li_19, li_20, li_30, li_31, li_32, li_33, li_40, li_41, li_42, li_43, li_45, li_48, li_56, li_57, li_59, li_60, li_61, li_64, li_91, li_97, li_99, li_100, li_122, li_150, li_160, li_200, li_201, li_255, li_300, li_303, li_304, li_305, li_306, li_312, li_400, li_500, li_999, li_1003, li_3099, li_99999, li_100000, li_1000000, li_65, li_23, li_neg]
        rw [if_neg (nI_nlt (Nat.zero_le _) (by omega)), if_pos (nI_le hk (by omega)), if_neg (nI_nlt (Nat.zero_le _) (by omega)), if_pos (nI_lt (by omega) (by omega)), if_neg (nI_nlt q (by omega)), hsub, pu_let, hil, if_pos y, Option.bind_some, if_neg n10, k6, if_pos rfl, hf, Option.bind_some]
      · unfold f_X7_taken
        simp only [li_0, li_1, li_2, li_3, li_4, li_5, li_6, li_7, li_8, li_9, li_10, li_11, li_12, li_13, li_14, li_15, li_16, li_17, li_18, li_19, li_20, li_30, li_31, li_32, li_33, li_40, li_41, li_42, li_43, li_45, li_48, li_56, li_57, li_59, li_60, li_61, li_64, li_91, li_97, li_99, li_100, li_122, li_150, li_160, li_200, li_201, li_255, li_300, li_303, li_304, li_305, li_306, li_312, li_400, li_500, li_999, li_1003, li_3099, li_99999, li_100000, li_1000000, li_65, li_23, li_neg]
        rw [in7_ok hk (by omega), Option.bind_some, if_neg n10, in7_ok hi (by omega), Option.bind_some, if_neg n10, if_neg (nI_nlt q (by omega)), hsub, h0, if_pos (nI_lt y (by omega)), k6, if_pos rfl, pu_mul, pu_in (by omega) (by omega), pu_ck, pu_cl (by omega), hrow]
    · have hne : ¬ nI k = nI 6 := fun w => k6 ((nI_eq (by omega) (by omega)).mp w)
      refine ⟨nM 13, ?_, ?_, Rel.mk hD⟩
      · unfold f_X6_taken
        simp only [li_0, li_1, li_2, li_3, li_4, li_5, li_6, li_7, li_8, li_9, li_10, li_11, li_12, li_13, li_14, li_15, li_16, li_17, li_18, li_19, li_20, li_30, li_31, li_32, li_33, li_40, li_41, li_42, li_43, li_45, li_48, li_56, li_57, li_59, li_60, li_61, li_64, li_91, li_97, li_99, li_100, li_122, li_150, li_160, li_200, li_201, li_255, li_300, li_303, li_304, li_305, li_306, li_312, li_400, li_500, li_999, li_1003, li_3099, li_99999, li_100000, li_1000000, li_65, li_23, li_neg]
        rw [if_neg (nI_nlt (Nat.zero_le _) (by omega)), if_pos (nI_le hk (by omega)), if_neg (nI_nlt (Nat.zero_le _) (by omega)), if_pos (nI_lt (by omega) (by omega)), if_neg (nI_nlt q (by omega)), hsub, pu_let, hil, if_pos y, Option.bind_some, if_neg n10, if_neg hne]
      · unfold f_X7_taken
        simp only [li_0, li_1, li_2, li_3, li_4, li_5, li_6, li_7, li_8, li_9, li_10, li_11, li_12, li_13, li_14, li_15, li_16, li_17, li_18, li_19, li_20, li_30, li_31, li_32, li_33, li_40, li_41, li_42, li_43, li_45, li_48, li_56, li_57, li_59, li_60, li_61, li_64, li_91, li_97, li_99, li_100, li_122, li_150, li_160, li_200, li_201, li_255, li_300, li_303, li_304, li_305, li_306, li_312, li_400, li_500, li_999, li_1003, li_3099, li_99999, li_100000, li_1000000, li_65, li_23, li_neg]
        rw [in7_ok hk (by omega), Option.bind_some, if_neg n10, in7_ok hi (by omega), Option.bind_some, if_neg n10, if_neg (nI_nlt q (by omega)), hsub, h0, if_pos (nI_lt y (by omega)), if_neg hne]
/-- copied whole, b's places from a's -/
theorem copyL {ρ : Type} {f : qaM × Int32 → Option ((qaM × Int32) ⊕ ρ)} {g : qaM → Option ρ} (a b E : Nat) (m : qaM) (hE : E < 1900) (hab : a ≠ b)
    (hs : ∀ (x : qaM) (j : Nat), j < E → f (x, nI j) = some (.inl (qa_st x b j (x a j), nI (j + 1)))) (he : ∀ x : qaM, f (x, nI E) = qa_inr (g x)) :
    ∃ m2, qa_lp f qa_F (m, nI 0) = g m2 ∧ (∀ k : Nat, k < E → m2 b k = m a k) ∧ qF [b] m m2 := by
  obtain ⟨m2, h1, h2, h3⟩ := fillL (f := f) (g := g) b 0 E (fun k => m a k) m hE (fun x j hj hf hx => by
    rw [hs x j hj, Nat.zero_add, hf a (by simpa using hab)]) (fun x _ => he x)
  refine ⟨m2, h1, fun k hk => ?_, h3⟩
  rw [h2, if_pos ⟨Nat.zero_le _, by omega⟩, Nat.sub_zero]
theorem qp_image : qaP_image Rel := by
  intro m h
  obtain ⟨H, N, S, hD⟩ := h
  have ⟨c, r, v, hl, hw, t, tp, kk, sh, nt⟩ := hD
  have n8 := v.n8
  obtain ⟨m1, a1, a2, a3⟩ := kbegins (h := 14) c (by omega)
  have f2 : qF [0, 14, 15, 16, 17, 18, 19] m (qa_st m1 0 7 (nI 1)) := (a3.mo (by simp)).stl (by simp)
  obtain ⟨x, hx⟩ : ∃ x, x = qa_st m1 0 7 (nI 1) := ⟨_, rfl⟩
  rw [← hx] at f2
  have r2 : MH x H := r.cl f2 (by decide)
  obtain ⟨y, hy⟩ : ∃ y, y = qa_st (qa_st (qa_st (qa_st (qa_st x 36 14 (nI 1)) 36 15 (nI H.n)) 36 16 (nI H.P.length)) 36 17 (nI H.wk)) 36 18 (nI H.lw) := ⟨_, rfl⟩
  have fy : qF [36] x y := by
    rw [hy]
    exact (((((qF.rf _ x).stl (by simp)).stl (by simp)).stl (by simp)).stl (by simp)).stl (by simp)
  have oy : o36l [14, 15, 16, 17, 18] x y := by
    intro k hk
    have hk2 : k ≠ 14 ∧ k ≠ 15 ∧ k ≠ 16 ∧ k ≠ 17 ∧ k ≠ 18 := by simpa using hk
    rw [hy, st_s, up_n hk2.2.2.2.2, st_s, up_n hk2.2.2.2.1, st_s, up_n hk2.2.2.1, st_s, up_n hk2.2.1, st_s, up_n hk2.1]
  obtain ⟨z1, b1, b2, b3⟩ := copyL (f := fun q : qaM × Int32 => b_X7_image_39 q.1 q.2) (g := fun x => b_X7_image_63 x) 39 45 48 y (by omega) (by omega) (by
    intro x j hj
    show b_X7_image_39 x (nI j) = _
    unfold b_X7_image_39
    ((try simp only [li_0, li_1, li_2, li_3, li_4, li_5, li_6, li_7, li_8, li_9, li_10, li_11, li_12, li_13, li_14, li_15, li_16, li_17, li_18, li_19, li_20, li_30, li_31, li_32, li_33, li_40, li_41, li_42, li_43, li_45, li_48, li_56, li_57, li_59, li_60, li_61, li_64, li_91, li_97, li_99, li_100, li_122, li_150, li_160, li_200, li_201, li_255, li_300, li_303, li_304, li_305, li_306, li_312, li_400, li_500, li_999, li_1003, li_3099, li_99999, li_100000, li_1000000, li_65, li_23, li_neg]); (try simp (disch := omega) only [ic_le_f, ic_le_t, ic_lt_f, ic_lt_t, ic_eq_f, ic_eq_t, ic_im, ic_mi, ic_mm_t, ic_mm_f, ic_mlt, ic_mle, ic_ilem, ic_iltm, ic_mmle_t, ic_mmle_f, pu_add, pu_mul, pu_in, pu_ck, pu_let, pu_cl, pu_cpok, pu_inr, Option.bind_some, ite_true, ite_false, pu_dm, pu_dv, pu_sub, nt_dm, if_true, if_false]))) (by
    intro x
    show b_X7_image_39 x (nI 48) = _
    unfold b_X7_image_39
    ((try simp only [li_0, li_1, li_2, li_3, li_4, li_5, li_6, li_7, li_8, li_9, li_10, li_11, li_12, li_13, li_14, li_15, li_16, li_17, li_18, li_19, li_20, li_30, li_31, li_32, li_33, li_40, li_41, li_42, li_43, li_45, li_48, li_56, li_57, li_59, li_60, li_61, li_64, li_91, li_97, li_99, li_100, li_122, li_150, li_160, li_200, li_201, li_255, li_300, li_303, li_304, li_305, li_306, li_312, li_400, li_500, li_999, li_1003, li_3099, li_99999, li_100000, li_1000000, li_65, li_23, li_neg]); (try simp (disch := omega) only [ic_le_f, ic_le_t, ic_lt_f, ic_lt_t, ic_eq_f, ic_eq_t, ic_im, ic_mi, ic_mm_t, ic_mm_f, ic_mlt, ic_mle, ic_ilem, ic_iltm, ic_mmle_t, ic_mmle_f, pu_add, pu_mul, pu_in, pu_ck, pu_let, pu_cl, pu_cpok, pu_inr, Option.bind_some, ite_true, ite_false, pu_dm, pu_dv, pu_sub, nt_dm, if_true, if_false])))
  obtain ⟨z2, d1, d2, d3⟩ := copyL (f := fun q : qaM × Int32 => b_X7_image_65 q.1 q.2) (g := fun x => b_X7_image_89 x) 40 46 9 z1 (by omega) (by omega) (by
    intro x j hj
    show b_X7_image_65 x (nI j) = _
    unfold b_X7_image_65
    ((try simp only [li_0, li_1, li_2, li_3, li_4, li_5, li_6, li_7, li_8, li_9, li_10, li_11, li_12, li_13, li_14, li_15, li_16, li_17, li_18, li_19, li_20, li_30, li_31, li_32, li_33, li_40, li_41, li_42, li_43, li_45, li_48, li_56, li_57, li_59, li_60, li_61, li_64, li_91, li_97, li_99, li_100, li_122, li_150, li_160, li_200, li_201, li_255, li_300, li_303, li_304, li_305, li_306, li_312, li_400, li_500, li_999, li_1003, li_3099, li_99999, li_100000, li_1000000, li_65, li_23, li_neg]); (try simp (disch := omega) only [ic_le_f, ic_le_t, ic_lt_f, ic_lt_t, ic_eq_f, ic_eq_t, ic_im, ic_mi, ic_mm_t, ic_mm_f, ic_mlt, ic_mle, ic_ilem, ic_iltm, ic_mmle_t, ic_mmle_f, pu_add, pu_mul, pu_in, pu_ck, pu_let, pu_cl, pu_cpok, pu_inr, Option.bind_some, ite_true, ite_false, pu_dm, pu_dv, pu_sub, nt_dm, if_true, if_false]))) (by
    intro x
    show b_X7_image_65 x (nI 9) = _
    unfold b_X7_image_65
    ((try simp only [li_0, li_1, li_2, li_3, li_4, li_5, li_6, li_7, li_8, li_9, li_10, li_11, li_12, li_13, li_14, li_15, li_16, li_17, li_18, li_19, li_20, li_30, li_31, li_32, li_33, li_40, li_41, li_42, li_43, li_45, li_48, li_56, li_57, li_59, li_60, li_61, li_64, li_91, li_97, li_99, li_100, li_122, li_150, li_160, li_200, li_201, li_255, li_300, li_303, li_304, li_305, li_306, li_312, li_400, li_500, li_999, li_1003, li_3099, li_99999, li_100000, li_1000000, li_65, li_23, li_neg]); (try simp (disch := omega) only [ic_le_f, ic_le_t, ic_lt_f, ic_lt_t, ic_eq_f, ic_eq_t, ic_im, ic_mi, ic_mm_t, ic_mm_f, ic_mlt, ic_mle, ic_ilem, ic_iltm, ic_mmle_t, ic_mmle_f, pu_add, pu_mul, pu_in, pu_ck, pu_let, pu_cl, pu_cpok, pu_inr, Option.bind_some, ite_true, ite_false, pu_dm, pu_dv, pu_sub, nt_dm, if_true, if_false])))
  obtain ⟨z3, e1, e2, e3⟩ := copyL (f := fun q : qaM × Int32 => b_X7_image_91 q.1 q.2) (g := fun x => some (x 36 0, x)) 41 47 4 z2 (by omega) (by omega) (by
    intro x j hj
    show b_X7_image_91 x (nI j) = _
    unfold b_X7_image_91
    ((try simp only [li_0, li_1, li_2, li_3, li_4, li_5, li_6, li_7, li_8, li_9, li_10, li_11, li_12, li_13, li_14, li_15, li_16, li_17, li_18, li_19, li_20, li_30, li_31, li_32, li_33, li_40, li_41, li_42, li_43, li_45, li_48, li_56, li_57, li_59, li_60, li_61, li_64, li_91, li_97, li_99, li_100, li_122, li_150, li_160, li_200, li_201, li_255, li_300, li_303, li_304, li_305, li_306, li_312, li_400, li_500, li_999, li_1003, li_3099, li_99999, li_100000, li_1000000, li_65, li_23, li_neg]); (try simp (disch := omega) only [ic_le_f, ic_le_t, ic_lt_f, ic_lt_t, ic_eq_f, ic_eq_t, ic_im, ic_mi, ic_mm_t, ic_mm_f, ic_mlt, ic_mle, ic_ilem, ic_iltm, ic_mmle_t, ic_mmle_f, pu_add, pu_mul, pu_in, pu_ck, pu_let, pu_cl, pu_cpok, pu_inr, Option.bind_some, ite_true, ite_false, pu_dm, pu_dv, pu_sub, nt_dm, if_true, if_false]))) (by
    intro x
    show b_X7_image_91 x (nI 4) = _
    unfold b_X7_image_91
    ((try simp only [li_0, li_1, li_2, li_3, li_4, li_5, li_6, li_7, li_8, li_9, li_10, li_11, li_12, li_13, li_14, li_15, li_16, li_17, li_18, li_19, li_20, li_30, li_31, li_32, li_33, li_40, li_41, li_42, li_43, li_45, li_48, li_56, li_57, li_59, li_60, li_61, li_64, li_91, li_97, li_99, li_100, li_122, li_150, li_160, li_200, li_201, li_255, li_300, li_303, li_304, li_305, li_306, li_312, li_400, li_500, li_999, li_1003, li_3099, li_99999, li_100000, li_1000000, li_65, li_23, li_neg]); (try simp (disch := omega) only [ic_le_f, ic_le_t, ic_lt_f, ic_lt_t, ic_eq_f, ic_eq_t, ic_im, ic_mi, ic_mm_t, ic_mm_f, ic_mlt, ic_mle, ic_ilem, ic_iltm, ic_mmle_t, ic_mmle_f, pu_add, pu_mul, pu_in, pu_ck, pu_let, pu_cl, pu_cpok, pu_inr, Option.bind_some, ite_true, ite_false, pu_dm, pu_dv, pu_sub, nt_dm, if_true, if_false])))
  have fz : qF [45, 46, 47] y z3 := ((b3.mo (by simp)).t2 d3 (by simp)).t2 e3 (by simp)
  have fxz : qF [36, 45, 46, 47] x z3 := (fy.mo (by simp)).t2 fz (by simp)
  have oxz : o36l [14, 15, 16, 17, 18] x z3 := oy.tr (o36l.q (k := []) fz (by decide)) (fun _ z => z) (by simp)
  have f : qF [0, 14, 15, 16, 17, 18, 19, 36, 45, 46, 47] m z3 := (f2.mo (by simp)).t2 fxz (by simp)
  have o : o36l [14, 15, 16, 17, 18] m z3 := (o36l.q (k := []) f2 (by decide)).tr oxz (by simp) (fun _ z => z)
  have rz : MH z3 H := r2.T fxz (by decide) (by decide) (by decide) (by decide) (by decide) oxz (by decide) (by decide) (by decide) (by decide)
  have hy36 : ∀ k : Nat, z3 36 k = y 36 k := fun k => by rw [fz 36 (by decide)]
  have h07 : m 0 7 = m 0 7 := rfl
  have x07 : x 0 7 = nI 1 := by rw [hx, st_s, up_s]
  have x15 : x 15 0 = nI H.n := by
    rw [hx, st_n (by omega)]
    exact a2.1.1.1
  have cx : CH x 14 H := by
    rw [hx]
    exact a2.1.F (qF.st m1 0 7 (nI 1)) (by decide) (by decide) (by decide) (by decide) (by decide) (by decide)
  refine ⟨nI H.n, x, z3, ?_, ?_, ?_⟩
  · unfold f_X6_image
    simp only [li_0, li_1, li_2, li_3, li_4, li_5, li_6, li_7, li_8, li_9, li_10, li_11, li_12, li_13, li_14, li_15, li_16, li_17, li_18, li_19, li_20, li_30, li_31, li_32, li_33, li_40, li_41, li_42, li_43, li_45, li_48, li_56, li_57, li_59, li_60, li_61, li_64, li_91, li_97, li_99, li_100, li_122, li_150, li_160, li_200, li_201, li_255, li_300, li_303, li_304, li_305, li_306, li_312, li_400, li_500, li_999, li_1003, li_3099, li_99999, li_100000, li_1000000, li_65, li_23, li_neg]
    rw [a1, Option.bind_some, pu_let, ← hx, x15]
  · have q0 : qa_st x 36 14 (nI 1) 36 0 = nI H.n := by
      rw [st_s, up_n (by omega)]
      exact r2.2.2.2.1
    have q5 : qa_st (qa_st x 36 14 (nI 1)) 36 15 (nI H.n) 36 5 = nI H.P.length := by
      rw [st_s, up_n (by omega), st_s, up_n (by omega)]
      exact r2.2.1.1
    have q7 : qa_st (qa_st (qa_st x 36 14 (nI 1)) 36 15 (nI H.n)) 36 16 (nI H.P.length) 36 7 = nI H.wk := by
      rw [st_s, up_n (by omega), st_s, up_n (by omega), st_s, up_n (by omega)]
      exact r2.2.2.2.2.1
    have q13 : qa_st (qa_st (qa_st (qa_st x 36 14 (nI 1)) 36 15 (nI H.n)) 36 16 (nI H.P.length)) 36 17 (nI H.wk) 36 13 = nI H.lw := by
      rw [st_s, up_n (by omega), st_s, up_n (by omega), st_s, up_n (by omega), st_s, up_n (by omega)]
      exact r2.2.2.2.2.2
    unfold f_X7_image
    simp only [li_0, li_1, li_2, li_3, li_4, li_5, li_6, li_7, li_8, li_9, li_10, li_11, li_12, li_13, li_14, li_15, li_16, li_17, li_18, li_19, li_20, li_30, li_31, li_32, li_33, li_40, li_41, li_42, li_43, li_45, li_48, li_56, li_57, li_59, li_60, li_61, li_64, li_91, li_97, li_99, li_100, li_122, li_150, li_160, li_200, li_201, li_255, li_300, li_303, li_304, li_305, li_306, li_312, li_400, li_500, li_999, li_1003, li_3099, li_99999, li_100000, li_1000000, li_65, li_23, li_neg]
    rw [pu_let, q0, pu_let, q5, pu_let, q7, pu_let, q13, pu_let, ← hy, lp_X7_image_39, b1]
    unfold b_X7_image_63
    simp only [li_0, li_1, li_2, li_3, li_4, li_5, li_6, li_7, li_8, li_9, li_10, li_11, li_12, li_13, li_14, li_15, li_16, li_17, li_18, li_19, li_20, li_30, li_31, li_32, li_33, li_40, li_41, li_42, li_43, li_45, li_48, li_56, li_57, li_59, li_60, li_61, li_64, li_91, li_97, li_99, li_100, li_122, li_150, li_160, li_200, li_201, li_255, li_300, li_303, li_304, li_305, li_306, li_312, li_400, li_500, li_999, li_1003, li_3099, li_99999, li_100000, li_1000000, li_65, li_23, li_neg]
    rw [lp_X7_image_65, d1]
    unfold b_X7_image_89
    simp only [li_0, li_1, li_2, li_3, li_4, li_5, li_6, li_7, li_8, li_9, li_10, li_11, li_12, li_13, li_14, li_15, li_16, li_17, li_18, li_19, li_20, li_30, li_31, li_32, li_33, li_40, li_41, li_42, li_43, li_45, li_48, li_56, li_57, li_59, li_60, li_61, li_64, li_91, li_97, li_99, li_100, li_122, li_150, li_160, li_200, li_201, li_255, li_300, li_303, li_304, li_305, li_306, li_312, li_400, li_500, li_999, li_1003, li_3099, li_99999, li_100000, li_1000000, li_65, li_23, li_neg]
    rw [lp_X7_image_91, e1, rz.2.2.2.1]
  · refine ⟨H, N, S, c.F f (by decide) (by decide) (by decide) (by decide) (by decide) (by decide), rz, v, hl, hw, t.F f (by decide) (by decide) (by decide) (by decide) (by decide) (by decide) o (by decide), tp.F f (by decide) (by decide) (by decide) o (by decide), Or.inr ⟨?_, ?_, H, ?_, ⟨fun i k hi hk h4 => ?_, fun j hj => ?_, fun k hk => ?_, ?_, ?_, ?_, ?_⟩, v, hl, hw, Nat.le_refl _, fun _ _ => ⟨rfl, rfl⟩⟩, sh.F f (by decide) (by decide) (by decide) (by decide) (by decide) (by decide), nt.F (f 8 (by decide)) rfl⟩
    · rw [fxz 0 (by decide), x07]
    · rw [hy36, hy, st_s, up_n (by omega), st_s, up_n (by omega), st_s, up_n (by omega), st_s, up_n (by omega), st_s, up_s]
    · exact cx.F fxz (by decide) (by decide) (by decide) (by decide) (by decide) (by decide)
    · rw [e3 45 (by decide), d3 45 (by decide), b2 _ (by omega), fy 39 (by decide)]
      exact r2.1.2.2 i k hi hk h4
    · have p8 := v.len8
      rw [e3 46 (by decide), d2 _ (by omega), b3 40 (by decide), fy 40 (by decide)]
      exact r2.2.1.2.2 j hj
    · rw [e2 _ hk, d3 41 (by decide), b3 41 (by decide), fy 41 (by decide)]
      exact r2.2.2.1 k hk
    · rw [hy36, hy, st_s, up_n (by omega), st_s, up_n (by omega), st_s, up_n (by omega), st_s, up_s]
    · rw [hy36, hy, st_s, up_n (by omega), st_s, up_n (by omega), st_s, up_s]
    · rw [hy36, hy, st_s, up_n (by omega), st_s, up_s]
    · rw [hy36, hy, st_s, up_s]
theorem qp_back : qaP_back Rel := by
  intro m h
  obtain ⟨H, N, S, hD⟩ := h
  have ⟨c, r, v, hl, hw, t, tp, kk, sh, nt⟩ := hD
  have n8 := v.n8
  rcases kk with ⟨k1, k2⟩ | ⟨k1, k2, K, k3, ⟨i1, i2, i3, i4, i5, i6, i7⟩, k5, k6, k7, k8, k9⟩
  · refine ⟨nM 3, m, m, ?_, ?_, Rel.mk hD⟩
    · unfold f_X6_back
      simp only [li_0, li_1, li_2, li_3, li_4, li_5, li_6, li_7, li_8, li_9, li_10, li_11, li_12, li_13, li_14, li_15, li_16, li_17, li_18, li_19, li_20, li_30, li_31, li_32, li_33, li_40, li_41, li_42, li_43, li_45, li_48, li_56, li_57, li_59, li_60, li_61, li_64, li_91, li_97, li_99, li_100, li_122, li_150, li_160, li_200, li_201, li_255, li_300, li_303, li_304, li_305, li_306, li_312, li_400, li_500, li_999, li_1003, li_3099, li_99999, li_100000, li_1000000, li_65, li_23, li_neg]
      rw [k1, if_pos rfl]
    · unfold f_X7_back
      simp only [li_0, li_1, li_2, li_3, li_4, li_5, li_6, li_7, li_8, li_9, li_10, li_11, li_12, li_13, li_14, li_15, li_16, li_17, li_18, li_19, li_20, li_30, li_31, li_32, li_33, li_40, li_41, li_42, li_43, li_45, li_48, li_56, li_57, li_59, li_60, li_61, li_64, li_91, li_97, li_99, li_100, li_122, li_150, li_160, li_200, li_201, li_255, li_300, li_303, li_304, li_305, li_306, li_312, li_400, li_500, li_999, li_1003, li_3099, li_99999, li_100000, li_1000000, li_65, li_23, li_neg]
      rw [k2, if_pos rfl]
  have p8 := k5.len8
  have kn8 := k5.n8
  obtain ⟨x, a1, a2, a3⟩ := kbegins (h := 8) k3 (by omega)
  have f2 : qF [8, 9, 10, 11, 12, 13] m x := a3
  have r2 : MH x H := r.cl f2 (by decide)
  obtain ⟨y, hy⟩ : ∃ y, y = qa_st (qa_st (qa_st (qa_st x 36 0 (nI K.n)) 36 5 (nI K.P.length)) 36 7 (nI K.wk)) 36 13 (nI K.lw) := ⟨_, rfl⟩
  have fy : qF [36] x y := by
    rw [hy]
    exact ((((qF.rf _ x).stl (by simp)).stl (by simp)).stl (by simp)).stl (by simp)
  have oy : o36l [0, 5, 7, 13] x y := by
    intro k hk
    have hk2 : k ≠ 0 ∧ k ≠ 5 ∧ k ≠ 7 ∧ k ≠ 13 := by simpa using hk
    rw [hy, st_s, up_n hk2.2.2.2, st_s, up_n hk2.2.2.1, st_s, up_n hk2.2.1, st_s, up_n hk2.1]
  obtain ⟨z1, b1, b2, b3⟩ := copyL (f := fun q : qaM × Int32 => b_X7_back_44 q.1 q.2) (g := fun x => b_X7_back_68 x) 45 39 48 y (by omega) (by omega) (by
    intro x j hj
    show b_X7_back_44 x (nI j) = _
    unfold b_X7_back_44
    ((try simp only [li_0, li_1, li_2, li_3, li_4, li_5, li_6, li_7, li_8, li_9, li_10, li_11, li_12, li_13, li_14, li_15, li_16, li_17, li_18, li_19, li_20, li_30, li_31, li_32, li_33, li_40, li_41, li_42, li_43, li_45, li_48, li_56, li_57, li_59, li_60, li_61, li_64, li_91, li_97, li_99, li_100, li_122, li_150, li_160, li_200, li_201, li_255, li_300, li_303, li_304, li_305, li_306, li_312, li_400, li_500, li_999, li_1003, li_3099, li_99999, li_100000, li_1000000, li_65, li_23, li_neg]); (try simp (disch := omega) only [ic_le_f, ic_le_t, ic_lt_f, ic_lt_t, ic_eq_f, ic_eq_t, ic_im, ic_mi, ic_mm_t, ic_mm_f, ic_mlt, ic_mle, ic_ilem, ic_iltm, ic_mmle_t, ic_mmle_f, pu_add, pu_mul, pu_in, pu_ck, pu_let, pu_cl, pu_cpok, pu_inr, Option.bind_some, ite_true, ite_false, pu_dm, pu_dv, pu_sub, nt_dm, if_true, if_false]))) (by
    intro x
    show b_X7_back_44 x (nI 48) = _
    unfold b_X7_back_44
    ((try simp only [li_0, li_1, li_2, li_3, li_4, li_5, li_6, li_7, li_8, li_9, li_10, li_11, li_12, li_13, li_14, li_15, li_16, li_17, li_18, li_19, li_20, li_30, li_31, li_32, li_33, li_40, li_41, li_42, li_43, li_45, li_48, li_56, li_57, li_59, li_60, li_61, li_64, li_91, li_97, li_99, li_100, li_122, li_150, li_160, li_200, li_201, li_255, li_300, li_303, li_304, li_305, li_306, li_312, li_400, li_500, li_999, li_1003, li_3099, li_99999, li_100000, li_1000000, li_65, li_23, li_neg]); (try simp (disch := omega) only [ic_le_f, ic_le_t, ic_lt_f, ic_lt_t, ic_eq_f, ic_eq_t, ic_im, ic_mi, ic_mm_t, ic_mm_f, ic_mlt, ic_mle, ic_ilem, ic_iltm, ic_mmle_t, ic_mmle_f, pu_add, pu_mul, pu_in, pu_ck, pu_let, pu_cl, pu_cpok, pu_inr, Option.bind_some, ite_true, ite_false, pu_dm, pu_dv, pu_sub, nt_dm, if_true, if_false])))
  obtain ⟨z2, d1, d2, d3⟩ := copyL (f := fun q : qaM × Int32 => b_X7_back_70 q.1 q.2) (g := fun x => b_X7_back_94 x) 46 40 9 z1 (by omega) (by omega) (by
    intro x j hj
    show b_X7_back_70 x (nI j) = _
    unfold b_X7_back_70
    ((try simp only [li_0, li_1, li_2, li_3, li_4, li_5, li_6, li_7, li_8, li_9, li_10, li_11, li_12, li_13, li_14, li_15, li_16, li_17, li_18, li_19, li_20, li_30, li_31, li_32, li_33, li_40, li_41, li_42, li_43, li_45, li_48, li_56, li_57, li_59, li_60, li_61, li_64, li_91, li_97, li_99, li_100, li_122, li_150, li_160, li_200, li_201, li_255, li_300, li_303, li_304, li_305, li_306, li_312, li_400, li_500, li_999, li_1003, li_3099, li_99999, li_100000, li_1000000, li_65, li_23, li_neg]); (try simp (disch := omega) only [ic_le_f, ic_le_t, ic_lt_f, ic_lt_t, ic_eq_f, ic_eq_t, ic_im, ic_mi, ic_mm_t, ic_mm_f, ic_mlt, ic_mle, ic_ilem, ic_iltm, ic_mmle_t, ic_mmle_f, pu_add, pu_mul, pu_in, pu_ck, pu_let, pu_cl, pu_cpok, pu_inr, Option.bind_some, ite_true, ite_false, pu_dm, pu_dv, pu_sub, nt_dm, if_true, if_false]))) (by
    intro x
    show b_X7_back_70 x (nI 9) = _
    unfold b_X7_back_70
    ((try simp only [li_0, li_1, li_2, li_3, li_4, li_5, li_6, li_7, li_8, li_9, li_10, li_11, li_12, li_13, li_14, li_15, li_16, li_17, li_18, li_19, li_20, li_30, li_31, li_32, li_33, li_40, li_41, li_42, li_43, li_45, li_48, li_56, li_57, li_59, li_60, li_61, li_64, li_91, li_97, li_99, li_100, li_122, li_150, li_160, li_200, li_201, li_255, li_300, li_303, li_304, li_305, li_306, li_312, li_400, li_500, li_999, li_1003, li_3099, li_99999, li_100000, li_1000000, li_65, li_23, li_neg]); (try simp (disch := omega) only [ic_le_f, ic_le_t, ic_lt_f, ic_lt_t, ic_eq_f, ic_eq_t, ic_im, ic_mi, ic_mm_t, ic_mm_f, ic_mlt, ic_mle, ic_ilem, ic_iltm, ic_mmle_t, ic_mmle_f, pu_add, pu_mul, pu_in, pu_ck, pu_let, pu_cl, pu_cpok, pu_inr, Option.bind_some, ite_true, ite_false, pu_dm, pu_dv, pu_sub, nt_dm, if_true, if_false])))
  obtain ⟨z3, e1, e2, e3⟩ := copyL (f := fun q : qaM × Int32 => b_X7_back_96 q.1 q.2) (g := fun x => some (x 36 0, x)) 47 41 4 z2 (by omega) (by omega) (by
    intro x j hj
    show b_X7_back_96 x (nI j) = _
    unfold b_X7_back_96
    ((try simp only [li_0, li_1, li_2, li_3, li_4, li_5, li_6, li_7, li_8, li_9, li_10, li_11, li_12, li_13, li_14, li_15, li_16, li_17, li_18, li_19, li_20, li_30, li_31, li_32, li_33, li_40, li_41, li_42, li_43, li_45, li_48, li_56, li_57, li_59, li_60, li_61, li_64, li_91, li_97, li_99, li_100, li_122, li_150, li_160, li_200, li_201, li_255, li_300, li_303, li_304, li_305, li_306, li_312, li_400, li_500, li_999, li_1003, li_3099, li_99999, li_100000, li_1000000, li_65, li_23, li_neg]); (try simp (disch := omega) only [ic_le_f, ic_le_t, ic_lt_f, ic_lt_t, ic_eq_f, ic_eq_t, ic_im, ic_mi, ic_mm_t, ic_mm_f, ic_mlt, ic_mle, ic_ilem, ic_iltm, ic_mmle_t, ic_mmle_f, pu_add, pu_mul, pu_in, pu_ck, pu_let, pu_cl, pu_cpok, pu_inr, Option.bind_some, ite_true, ite_false, pu_dm, pu_dv, pu_sub, nt_dm, if_true, if_false]))) (by
    intro x
    show b_X7_back_96 x (nI 4) = _
    unfold b_X7_back_96
    ((try simp only [li_0, li_1, li_2, li_3, li_4, li_5, li_6, li_7, li_8, li_9, li_10, li_11, li_12, li_13, li_14, li_15, li_16, li_17, li_18, li_19, li_20, li_30, li_31, li_32, li_33, li_40, li_41, li_42, li_43, li_45, li_48, li_56, li_57, li_59, li_60, li_61, li_64, li_91, li_97, li_99, li_100, li_122, li_150, li_160, li_200, li_201, li_255, li_300, li_303, li_304, li_305, li_306, li_312, li_400, li_500, li_999, li_1003, li_3099, li_99999, li_100000, li_1000000, li_65, li_23, li_neg]); (try simp (disch := omega) only [ic_le_f, ic_le_t, ic_lt_f, ic_lt_t, ic_eq_f, ic_eq_t, ic_im, ic_mi, ic_mm_t, ic_mm_f, ic_mlt, ic_mle, ic_ilem, ic_iltm, ic_mmle_t, ic_mmle_f, pu_add, pu_mul, pu_in, pu_ck, pu_let, pu_cl, pu_cpok, pu_inr, Option.bind_some, ite_true, ite_false, pu_dm, pu_dv, pu_sub, nt_dm, if_true, if_false])))
  have fz : qF [39, 40, 41] y z3 := ((b3.mo (by simp)).t2 d3 (by simp)).t2 e3 (by simp)
  have fxz : qF [36, 39, 40, 41] x z3 := (fy.mo (by simp)).t2 fz (by simp)
  have oxz : o36l [0, 5, 7, 13] x z3 := oy.tr (o36l.q (k := []) fz (by decide)) (fun _ z => z) (by simp)
  have f : qF [8, 9, 10, 11, 12, 13, 36, 39, 40, 41] m z3 := (f2.mo (by simp)).t2 fxz (by simp)
  have o : o36l [0, 5, 7, 13] m z3 := (o36l.q (k := []) f2 (by decide)).tr oxz (by simp) (fun _ z => z)
  have hy36 : ∀ k : Nat, z3 36 k = y 36 k := fun k => by rw [fz 36 (by decide)]
  have q0 : z3 36 0 = nI K.n := by rw [hy36, hy, st_s, up_n (by omega), st_s, up_n (by omega), st_s, up_n (by omega), st_s, up_s]
  have q5 : z3 36 5 = nI K.P.length := by rw [hy36, hy, st_s, up_n (by omega), st_s, up_n (by omega), st_s, up_s]
  have q7 : z3 36 7 = nI K.wk := by rw [hy36, hy, st_s, up_n (by omega), st_s, up_s]
  have q13 : z3 36 13 = nI K.lw := by rw [hy36, hy, st_s, up_s]
  have rz : MH z3 K := by
    refine ⟨⟨fun i hi => ?_, fun i hi => ?_, fun i k hi hk h4 => ?_⟩, ⟨q5, p8, fun j hj => ?_⟩, fun k hk => ?_, q0, q7, q13⟩
    · rw [f 37 (by decide), (k9 i hi).1]
      exact r.1.1 i (by omega)
    · rw [f 38 (by decide), (k9 i hi).2]
      exact r.1.2.1 i (by omega)
    · rw [e3 39 (by decide), d3 39 (by decide), b2 _ (by omega), fy 45 (by decide), f2 45 (by decide)]
      exact i1 i k hi hk h4
    · rw [e3 40 (by decide), d2 _ (by omega), b3 46 (by decide), fy 46 (by decide), f2 46 (by decide)]
      exact i2 j hj
    · rw [e2 _ hk, d3 47 (by decide), b3 47 (by decide), fy 47 (by decide), f2 47 (by decide)]
      exact i3 k hk
  have x9 : x 9 0 = nI K.n := a2.1.1.1
  have cz : CY z3 8 (ty0 K) := ⟨a2.1.F fxz (by decide) (by decide) (by decide) (by decide) (by decide) (by decide), a2.2.F fxz (by decide)⟩
  refine ⟨nI K.n, x, z3, ?_, ?_, ?_⟩
  · unfold f_X6_back
    simp only [li_0, li_1, li_2, li_3, li_4, li_5, li_6, li_7, li_8, li_9, li_10, li_11, li_12, li_13, li_14, li_15, li_16, li_17, li_18, li_19, li_20, li_30, li_31, li_32, li_33, li_40, li_41, li_42, li_43, li_45, li_48, li_56, li_57, li_59, li_60, li_61, li_64, li_91, li_97, li_99, li_100, li_122, li_150, li_160, li_200, li_201, li_255, li_300, li_303, li_304, li_305, li_306, li_312, li_400, li_500, li_999, li_1003, li_3099, li_99999, li_100000, li_1000000, li_65, li_23, li_neg]
    rw [k1, if_neg n10, a1, Option.bind_some, x9]
  · have w14 : x 36 14 = nI 1 := by rw [f2 36 (by decide)]; exact k2
    have w15 : x 36 15 = nI K.n := by rw [f2 36 (by decide)]; exact i4
    have w16 : qa_st x 36 0 (nI K.n) 36 16 = nI K.P.length := by
      rw [st_s, up_n (by omega), f2 36 (by decide)]
      exact i5
    have w17 : qa_st (qa_st x 36 0 (nI K.n)) 36 5 (nI K.P.length) 36 17 = nI K.wk := by
      rw [st_s, up_n (by omega), st_s, up_n (by omega), f2 36 (by decide)]
      exact i6
    have w18 : qa_st (qa_st (qa_st x 36 0 (nI K.n)) 36 5 (nI K.P.length)) 36 7 (nI K.wk) 36 18 = nI K.lw := by
      rw [st_s, up_n (by omega), st_s, up_n (by omega), st_s, up_n (by omega), f2 36 (by decide)]
      exact i7
    unfold f_X7_back
    simp only [li_0, li_1, li_2, li_3, li_4, li_5, li_6, li_7, li_8, li_9, li_10, li_11, li_12, li_13, li_14, li_15, li_16, li_17, li_18, li_19, li_20, li_30, li_31, li_32, li_33, li_40, li_41, li_42, li_43, li_45, li_48, li_56, li_57, li_59, li_60, li_61, li_64, li_91, li_97, li_99, li_100, li_122, li_150, li_160, li_200, li_201, li_255, li_300, li_303, li_304, li_305, li_306, li_312, li_400, li_500, li_999, li_1003, li_3099, li_99999, li_100000, li_1000000, li_65, li_23, li_neg]
    rw [w14, if_neg n10, w15, pu_let, w16, pu_let, w17, pu_let, w18, pu_let, ← hy, lp_X7_back_44, b1]
    unfold b_X7_back_68
    simp only [li_0, li_1, li_2, li_3, li_4, li_5, li_6, li_7, li_8, li_9, li_10, li_11, li_12, li_13, li_14, li_15, li_16, li_17, li_18, li_19, li_20, li_30, li_31, li_32, li_33, li_40, li_41, li_42, li_43, li_45, li_48, li_56, li_57, li_59, li_60, li_61, li_64, li_91, li_97, li_99, li_100, li_122, li_150, li_160, li_200, li_201, li_255, li_300, li_303, li_304, li_305, li_306, li_312, li_400, li_500, li_999, li_1003, li_3099, li_99999, li_100000, li_1000000, li_65, li_23, li_neg]
    rw [lp_X7_back_70, d1]
    unfold b_X7_back_94
    simp only [li_0, li_1, li_2, li_3, li_4, li_5, li_6, li_7, li_8, li_9, li_10, li_11, li_12, li_13, li_14, li_15, li_16, li_17, li_18, li_19, li_20, li_30, li_31, li_32, li_33, li_40, li_41, li_42, li_43, li_45, li_48, li_56, li_57, li_59, li_60, li_61, li_64, li_91, li_97, li_99, li_100, li_122, li_150, li_160, li_200, li_201, li_255, li_300, li_303, li_304, li_305, li_306, li_312, li_400, li_500, li_999, li_1003, li_3099, li_99999, li_100000, li_1000000, li_65, li_23, li_neg]
    rw [lp_X7_back_96, e1, q0]
  · refine ⟨K, N, S, cz.1, rz, k5, k6, k7, t.F f (by decide) (by decide) (by decide) (by decide) (by decide) (by decide) o (by decide), tp.F f (by decide) (by decide) (by decide) o (by decide), Or.inr ⟨?_, ?_, K, k3.F f (by decide) (by decide) (by decide) (by decide) (by decide) (by decide), ⟨?_, ?_, ?_, ?_, ?_, ?_, ?_⟩, k5, k6, k7, Nat.le_refl _, fun _ _ => ⟨rfl, rfl⟩⟩, sh.F f (by decide) (by decide) (by decide) (by decide) (by decide) (by decide), ⟨0, 0, 0, 0, cz.2, Nat.le_refl _, Nat.zero_le _⟩⟩
    · rw [f 0 (by decide)]
      exact k1
    · rw [o 14 (by decide)]
      exact k2
    · rw [f 45 (by decide)]
      exact i1
    · rw [f 46 (by decide)]
      exact i2
    · rw [f 47 (by decide)]
      exact i3
    · rw [o 15 (by decide)]
      exact i4
    · rw [o 16 (by decide)]
      exact i5
    · rw [o 17 (by decide)]
      exact i6
    · rw [o 18 (by decide)]
      exact i7
