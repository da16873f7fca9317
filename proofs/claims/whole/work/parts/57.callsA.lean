/-! PURE: the calls, one by one -/
theorem Rel.mk {m : qaM} {H : HS} {N : Nat} {S : SF} (h : RelD m H N S) : Rel m := ⟨H, N, S, h⟩
theorem neg_ne {x : Int32} {n : Nat} (hx : x < 0) (hn : n < 2 ^ 31) : ¬ x = nI n := by
  intro q
  rw [q] at hx
  exact nI_pos hn hx
theorem qp_count : qaP_count Rel := by
  intro m a h
  obtain ⟨H, N, S, hD⟩ := h
  have ⟨c, r, v, _, _, t, ⟨L, l1, l2, l3, _⟩, _, _⟩ := hD
  have h0 := c.2.2.1 0 (by omega)
  have h1 := c.2.2.1 1 (by omega)
  have h2 := c.2.2.1 2 (by omega)
  have h3 := c.2.2.1 3 (by omega)
  have g0 := r.2.2.1 0 (by omega)
  have g1 := r.2.2.1 1 (by omega)
  have g2 := r.2.2.1 2 (by omega)
  have g3 := r.2.2.1 3 (by omega)
  have hd : ∀ n : Nat, n = 2 ∨ n = 3 ∨ n = 4 ∨ n = 5 → b_X7_count_66 m (nI n) = some (m 41 (n - 2)) := by
    intro n hn
    unfold b_X7_count_66
    simp only [li_0, li_1, li_2, li_3, li_4, li_5, li_6, li_7, li_8, li_9, li_10, li_11, li_12, li_13, li_14, li_15, li_16, li_17, li_18, li_19, li_20, li_30, li_31, li_32, li_33, li_40, li_41, li_42, li_43, li_45, li_48, li_56, li_57, li_59, li_60, li_61, li_64, li_91, li_97, li_99, li_100, li_122, li_150, li_160, li_200, li_201, li_255, li_300, li_303, li_304, li_305, li_306, li_312, li_400, li_500, li_999, li_1003, li_3099, li_99999, li_100000, li_neg]
    rw [pu_sub (by omega)]
    ((try simp only [li_0, li_1, li_2, li_3, li_4, li_5, li_6, li_7, li_8, li_9, li_10, li_11, li_12, li_13, li_14, li_15, li_16, li_17, li_18, li_19, li_20, li_30, li_31, li_32, li_33, li_40, li_41, li_42, li_43, li_45, li_48, li_56, li_57, li_59, li_60, li_61, li_64, li_91, li_97, li_99, li_100, li_122, li_150, li_160, li_200, li_201, li_255, li_300, li_303, li_304, li_305, li_306, li_312, li_400, li_500, li_999, li_1003, li_3099, li_99999, li_100000, li_neg]); simp (disch := omega) only [ic_le_f, ic_le_t, ic_lt_f, ic_lt_t, ic_eq_f, ic_eq_t, ic_im, ic_mi, ic_mm_t, ic_mm_f, ic_mlt, ic_mle, ic_ilem, ic_iltm, ic_mmle_t, ic_mmle_f, pu_add, pu_mul, pu_in, pu_ck, pu_let, pu_cl, pu_cpok, pu_inr, Option.bind_some, ite_true, ite_false])
  have e1 : f_X7_count m a = f_X6_count m a := by
    unfold f_X7_count f_X6_count
    simp only [li_0, li_1, li_2, li_3, li_4, li_5, li_6, li_7, li_8, li_9, li_10, li_11, li_12, li_13, li_14, li_15, li_16, li_17, li_18, li_19, li_20, li_30, li_31, li_32, li_33, li_40, li_41, li_42, li_43, li_45, li_48, li_56, li_57, li_59, li_60, li_61, li_64, li_91, li_97, li_99, li_100, li_122, li_150, li_160, li_200, li_201, li_255, li_300, li_303, li_304, li_305, li_306, li_312, li_400, li_500, li_999, li_1003, li_3099, li_99999, li_100000, li_neg]
    by_cases q0 : a = nI 0
    · rw [if_pos q0, if_pos q0, r.2.2.2.1, c.1.1]
    rw [if_neg q0, if_neg q0]
    by_cases q1 : a = nI 1
    · rw [if_pos q1, if_pos q1, r.2.1.1, c.2.1.1]
    rw [if_neg q1, if_neg q1]
    by_cases q2 : a = nI 2
    · rw [if_pos q2, if_pos q2, q2, hd 2 (by omega), h0]
      exact congrArg some g0
    rw [if_neg q2, if_neg q2]
    by_cases q3 : a = nI 3
    · rw [if_pos q3, if_pos q3, q3, hd 3 (by omega), h1]
      exact congrArg some g1
    rw [if_neg q3, if_neg q3]
    by_cases q4 : a = nI 4
    · rw [if_pos q4, if_pos q4, q4, hd 4 (by omega), h2]
      exact congrArg some g2
    rw [if_neg q4, if_neg q4]
    by_cases q5 : a = nI 5
    · rw [if_pos q5, if_pos q5, q5, hd 5 (by omega), h3]
      exact congrArg some g3
    rw [if_neg q5, if_neg q5, r.2.2.2.2.1, c.2.2.2.1, t.2.1, t.1, r.2.2.2.2.2, c.2.2.2.2, l3, l2]
  have e2 : ∃ x, f_X6_count m a = some x := by
    unfold f_X6_count
    repeat' split
    all_goals exact ⟨_, rfl⟩
  obtain ⟨x, hx⟩ := e2
  exact ⟨x, hx, by rw [e1, hx], Rel.mk hD⟩
theorem qp_lies : qaP_lies Rel := by
  intro m a h
  obtain ⟨H, N, S, hD⟩ := h
  have ⟨c, r, v, _, _, t, _, _, _⟩ := hD
  have p8 := c.2.1.2.1
  unfold f_X6_lies f_X7_lies
  rw [r.2.1.1]
  simp only [li_0, li_1, li_2, li_3, li_4, li_5, li_6, li_7, li_8, li_9, li_10, li_11, li_12, li_13, li_14, li_15, li_16, li_17, li_18, li_19, li_20, li_30, li_31, li_32, li_33, li_40, li_41, li_42, li_43, li_45, li_48, li_56, li_57, li_59, li_60, li_61, li_64, li_91, li_97, li_99, li_100, li_122, li_150, li_160, li_200, li_201, li_255, li_300, li_303, li_304, li_305, li_306, li_312, li_400, li_500, li_999, li_1003, li_3099, li_99999, li_100000, li_neg]
  rw [plI_m]
  rcases anyI a with q | ⟨j, hj, rfl⟩
  · have e : f_X2_isPlace 11 m a = some (nI 0) := by
      unfold f_X2_isPlace
      rw [if_pos q]
      rfl
    refine ⟨nM 6, ?_, ?_, Rel.mk hD⟩
    · rw [e, Option.bind_some, if_pos rfl]
    · rw [r7in_n q (by omega), Option.bind_some, if_pos rfl]
  · have e := isPlace_ok (c := 11) c.2.1 hj
    rw [e, r7in_p hj (by omega), Option.bind_some, Option.bind_some]
    by_cases z : j < H.P.length
    · rw [if_pos z]
      refine ⟨nI (H.P.getD j 0), ?_, ?_, Rel.mk hD⟩
      · ((try simp only [li_0, li_1, li_2, li_3, li_4, li_5, li_6, li_7, li_8, li_9, li_10, li_11, li_12, li_13, li_14, li_15, li_16, li_17, li_18, li_19, li_20, li_30, li_31, li_32, li_33, li_40, li_41, li_42, li_43, li_45, li_48, li_56, li_57, li_59, li_60, li_61, li_64, li_91, li_97, li_99, li_100, li_122, li_150, li_160, li_200, li_201, li_255, li_300, li_303, li_304, li_305, li_306, li_312, li_400, li_500, li_999, li_1003, li_3099, li_99999, li_100000, li_neg]); simp (disch := omega) only [ic_le_f, ic_le_t, ic_lt_f, ic_lt_t, ic_eq_f, ic_eq_t, ic_im, ic_mi, ic_mm_t, ic_mm_f, ic_mlt, ic_mle, ic_ilem, ic_iltm, ic_mmle_t, ic_mmle_f, pu_add, pu_mul, pu_in, pu_ck, pu_let, pu_cl, pu_cpok, pu_inr, Option.bind_some, ite_true, ite_false])
        rw [at_ok (c := 11) c.2.1 z, Option.bind_some]
      · ((try simp only [li_0, li_1, li_2, li_3, li_4, li_5, li_6, li_7, li_8, li_9, li_10, li_11, li_12, li_13, li_14, li_15, li_16, li_17, li_18, li_19, li_20, li_30, li_31, li_32, li_33, li_40, li_41, li_42, li_43, li_45, li_48, li_56, li_57, li_59, li_60, li_61, li_64, li_91, li_97, li_99, li_100, li_122, li_150, li_160, li_200, li_201, li_255, li_300, li_303, li_304, li_305, li_306, li_312, li_400, li_500, li_999, li_1003, li_3099, li_99999, li_100000, li_neg]); simp (disch := omega) only [ic_le_f, ic_le_t, ic_lt_f, ic_lt_t, ic_eq_f, ic_eq_t, ic_im, ic_mi, ic_mm_t, ic_mm_f, ic_mlt, ic_mle, ic_ilem, ic_iltm, ic_mmle_t, ic_mmle_f, pu_add, pu_mul, pu_in, pu_ck, pu_let, pu_cl, pu_cpok, pu_inr, Option.bind_some, ite_true, ite_false])
        rw [r.2.1.2.2 j z]
    · rw [if_neg z]
      exact ⟨nM 6, if_pos rfl, if_pos rfl, Rel.mk hD⟩
theorem qp_next : qaP_next Rel := by
  intro m h
  obtain ⟨H, N, S, hD⟩ := h
  have ⟨c, r, v, _, _, t, _, _, _⟩ := hD
  have p8 := c.2.1.2.1
  have hr := v.rs.2.2.1
  unfold f_X6_next f_X7_next
  have h2 : m 13 2 = nI (H.R 2) := c.2.2.1 2 (by omega)
  rw [h2, ctakes c v hr, r.2.1.1, r.2.2.1 2 (by omega)]
  by_cases z : H.P.length = 0
  · rw [if_pos z]
    refine ⟨nM 1, ?_, ?_, Rel.mk hD⟩
    · rw [Option.bind_some, at_m1, Option.bind_some]
    · rw [z]
      ((try simp only [li_0, li_1, li_2, li_3, li_4, li_5, li_6, li_7, li_8, li_9, li_10, li_11, li_12, li_13, li_14, li_15, li_16, li_17, li_18, li_19, li_20, li_30, li_31, li_32, li_33, li_40, li_41, li_42, li_43, li_45, li_48, li_56, li_57, li_59, li_60, li_61, li_64, li_91, li_97, li_99, li_100, li_122, li_150, li_160, li_200, li_201, li_255, li_300, li_303, li_304, li_305, li_306, li_312, li_400, li_500, li_999, li_1003, li_3099, li_99999, li_100000, li_neg]); simp (disch := omega) only [ic_le_f, ic_le_t, ic_lt_f, ic_lt_t, ic_eq_f, ic_eq_t, ic_im, ic_mi, ic_mm_t, ic_mm_f, ic_mlt, ic_mle, ic_ilem, ic_iltm, ic_mmle_t, ic_mmle_f, pu_add, pu_mul, pu_in, pu_ck, pu_let, pu_cl, pu_cpok, pu_inr, Option.bind_some, ite_true, ite_false])
  · rw [if_neg z]
    have hk := tkK_lt (how := H.R 2) (H := H) (by omega)
    refine ⟨nI (H.P.getD (tkK (H.R 2) H) 0), ?_, ?_, Rel.mk hD⟩
    · rw [Option.bind_some, at_ok (c := 11) c.2.1 hk, Option.bind_some]
    · ((try simp only [li_0, li_1, li_2, li_3, li_4, li_5, li_6, li_7, li_8, li_9, li_10, li_11, li_12, li_13, li_14, li_15, li_16, li_17, li_18, li_19, li_20, li_30, li_31, li_32, li_33, li_40, li_41, li_42, li_43, li_45, li_48, li_56, li_57, li_59, li_60, li_61, li_64, li_91, li_97, li_99, li_100, li_122, li_150, li_160, li_200, li_201, li_255, li_300, li_303, li_304, li_305, li_306, li_312, li_400, li_500, li_999, li_1003, li_3099, li_99999, li_100000, li_neg]); simp (disch := omega) only [ic_le_f, ic_le_t, ic_lt_f, ic_lt_t, ic_eq_f, ic_eq_t, ic_im, ic_mi, ic_mm_t, ic_mm_f, ic_mlt, ic_mle, ic_ilem, ic_iltm, ic_mmle_t, ic_mmle_f, pu_add, pu_mul, pu_in, pu_ck, pu_let, pu_cl, pu_cpok, pu_inr, Option.bind_some, ite_true, ite_false])
      rw [r7placeBy r v hr (by omega)]
      ((try simp only [li_0, li_1, li_2, li_3, li_4, li_5, li_6, li_7, li_8, li_9, li_10, li_11, li_12, li_13, li_14, li_15, li_16, li_17, li_18, li_19, li_20, li_30, li_31, li_32, li_33, li_40, li_41, li_42, li_43, li_45, li_48, li_56, li_57, li_59, li_60, li_61, li_64, li_91, li_97, li_99, li_100, li_122, li_150, li_160, li_200, li_201, li_255, li_300, li_303, li_304, li_305, li_306, li_312, li_400, li_500, li_999, li_1003, li_3099, li_99999, li_100000, li_neg]); simp (disch := omega) only [ic_le_f, ic_le_t, ic_lt_f, ic_lt_t, ic_eq_f, ic_eq_t, ic_im, ic_mi, ic_mm_t, ic_mm_f, ic_mlt, ic_mle, ic_ilem, ic_iltm, ic_mmle_t, ic_mmle_f, pu_add, pu_mul, pu_in, pu_ck, pu_let, pu_cl, pu_cpok, pu_inr, Option.bind_some, ite_true, ite_false])
      rw [r.2.1.2.2 _ hk]
