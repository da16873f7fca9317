/-! PURE: told wear: kinds -/
theorem aU_self (a : AL) (k : Nat) : aU a k (a k) = a := by
  funext j
  by_cases q : j = k
  · rw [q, aU_s]
  · rw [aU_n q]
theorem aU_01 (a : AL) (v w : Nat) : aU (aU a 0 v) 1 w = aU (aU a 1 w) 0 v := by
  funext j
  by_cases q1 : j = 1
  · subst q1
    rw [aU_s, aU_n (by omega), aU_s]
  · rw [aU_n q1]
    by_cases q0 : j = 0
    · subst q0
      rw [aU_s, aU_s]
    · rw [aU_n q0, aU_n q0, aU_n q1]
def kin2 (H : HS) (i a b : Nat) : HS := H.setA i (aU (aU (H.A i) 0 a) 1 b)
theorem kin2_0 (H : HS) (i v : Nat) : kin2 H i v (H.A i 1) = H.setA i (aU (H.A i) 0 v) := by
  have h : aU (aU (H.A i) 0 v) 1 (H.A i 1) = aU (H.A i) 0 v := by
    have := aU_self (aU (H.A i) 0 v) 1
    rw [aU_n (by omega)] at this
    exact this
  unfold kin2
  rw [h]
theorem kin2_1 (H : HS) (i v : Nat) : kin2 H i (H.A i 0) v = H.setA i (aU (H.A i) 1 v) := by
  unfold kin2
  rw [aU_self]
theorem setA_self (H : HS) (i : Nat) : H.setA i (H.A i) = H := by
  have : (fun j => if j = i then H.A i else H.A j) = H.A := by
    funext j
    by_cases q : j = i
    · rw [if_pos q, q]
    · rw [if_neg q]
  show ((H.n, (fun j => if j = i then H.A i else H.A j), H.P, H.R, H.wk, H.lw) : HS) = H
  rw [this]
  rfl
theorem MH.kin {m : qaM} {H : HS} {i a b a2 b2 : Nat} (c : MH m (kin2 H i a b)) : MH (qa_st (qa_st m 37 i (nI a2)) 38 i (nI b2)) (kin2 H i a2 b2) := by
  have f : qF [37, 38] m (qa_st (qa_st m 37 i (nI a2)) 38 i (nI b2)) := ((qF.rf _ m).stl (by simp)).stl (by simp)
  refine ⟨⟨fun j hj => ?_, fun j hj => ?_, fun j k hj hk h4 => ?_⟩, ?_, ?_, ?_⟩
  · have hj2 : j < H.n := hj
    have h1 := c.1.1 j hj2
    unfold kin2 at h1 ⊢
    rw [st_n (by omega), st_s]
    by_cases q : j = i
    · rw [q, up_s, setA_s, aU_n (by omega), aU_s]
    · rw [up_n q, setA_n q]
      rw [setA_n q] at h1
      exact h1
  · have hj2 : j < H.n := hj
    have h1 := c.1.2.1 j hj2
    unfold kin2 at h1 ⊢
    rw [st_s, st_n (by omega)]
    by_cases q : j = i
    · rw [q, up_s, setA_s, aU_s]
    · rw [up_n q, setA_n q]
      rw [setA_n q] at h1
      exact h1
  · have hj2 : j < H.n := hj
    have h1 := c.1.2.2 j k hj2 hk
    rw [f 39 (by decide)]
    unfold kin2 at h1 h4 ⊢
    by_cases q : j = i
    · rw [q] at h1 h4 ⊢
      rw [setA_s] at h1 h4 ⊢
      rw [aU_n (by omega), aU_n (by omega)] at h1 h4 ⊢
      rw [aU_n (j := k + 2) (by omega), aU_n (j := k + 2) (by omega)] at h1
      exact h1 h4
    · rw [setA_n q] at h1 h4 ⊢
      exact h1 h4
  · have h2 := c.2.1
    unfold RP at h2 ⊢
    rw [f 36 (by decide), f 40 (by decide)]
    exact h2
  · rw [f 41 (by decide)]
    exact c.2.2.1
  · rw [f 36 (by decide)]
    exact c.2.2.2
theorem qp_kinds : qaP_kinds Rel := by
  intro m a b d h
  obtain ⟨H, N, S, hD⟩ := h
  have ⟨c, r, v, hl, hw, t, _, _, sh, nt⟩ := hD
  have n8 := v.n8
  rcases told1 hD a b with ⟨s, n, hs, hn, rfl, rfl, h34, e1, e2⟩ | ⟨y, hy, e1, e2⟩
  rotate_left
  · refine ⟨y, m, m, ?_, ?_, Rel.mk hD⟩
    · unfold f_X6_kinds
      rw [e1]
      ((try simp only [hy, li_0, li_1, li_2, li_3, li_4, li_5, li_6, li_7, li_8, li_9, li_10, li_11, li_12, li_13, li_14, li_15, li_16, li_17, li_18, li_19, li_20, li_30, li_31, li_32, li_33, li_40, li_41, li_42, li_43, li_45, li_48, li_56, li_57, li_59, li_60, li_61, li_64, li_91, li_97, li_99, li_100, li_122, li_150, li_160, li_200, li_201, li_255, li_300, li_303, li_304, li_305, li_306, li_312, li_400, li_500, li_999, li_1003, li_3099, li_99999, li_100000, li_1000000, li_65, li_23, li_neg]); (try simp (disch := omega) only [hy, ic_le_f, ic_le_t, ic_lt_f, ic_lt_t, ic_eq_f, ic_eq_t, ic_im, ic_mi, ic_mm_t, ic_mm_f, ic_mlt, ic_mle, ic_ilem, ic_iltm, ic_mmle_t, ic_mmle_f, pu_add, pu_mul, pu_in, pu_ck, pu_let, pu_cl, pu_cpok, pu_inr, Option.bind_some, ite_true, ite_false, pu_dm, pu_dv, pu_sub, nt_dm, if_true, if_false]))
    · unfold f_X7_kinds
      rw [e2]
      ((try simp only [hy, li_0, li_1, li_2, li_3, li_4, li_5, li_6, li_7, li_8, li_9, li_10, li_11, li_12, li_13, li_14, li_15, li_16, li_17, li_18, li_19, li_20, li_30, li_31, li_32, li_33, li_40, li_41, li_42, li_43, li_45, li_48, li_56, li_57, li_59, li_60, li_61, li_64, li_91, li_97, li_99, li_100, li_122, li_150, li_160, li_200, li_201, li_255, li_300, li_303, li_304, li_305, li_306, li_312, li_400, li_500, li_999, li_1003, li_3099, li_99999, li_100000, li_1000000, li_65, li_23, li_neg]); (try simp (disch := omega) only [hy, ic_le_f, ic_le_t, ic_lt_f, ic_lt_t, ic_eq_f, ic_eq_t, ic_im, ic_mi, ic_mm_t, ic_mm_f, ic_mlt, ic_mle, ic_ilem, ic_iltm, ic_mmle_t, ic_mmle_f, pu_add, pu_mul, pu_in, pu_ck, pu_let, pu_cl, pu_cpok, pu_inr, Option.bind_some, ite_true, ite_false, pu_dm, pu_dv, pu_sub, nt_dm, if_true, if_false]))
  have e3 := e2 m (qF.rf _ _)
  rcases anyI d with q | ⟨D, hd, rfl⟩
  · rw [li_0] at q
    have q2 : (d < nI 0) = True := eq_true q
    have q3 : (nI 0 ≤ d) = False := eq_false (Int32.not_le.mpr q)
    have q4 : f_X7_isLinen m (nM 1) = some (nI 0) := r7isLinen_n (by decide)
    refine ⟨nM 5, m, m, ?_, ?_, Rel.mk hD⟩
    · ((try simp only [f_X6_kinds, e1, q2, li_0, li_1, li_2, li_3, li_4, li_5, li_6, li_7, li_8, li_9, li_10, li_11, li_12, li_13, li_14, li_15, li_16, li_17, li_18, li_19, li_20, li_30, li_31, li_32, li_33, li_40, li_41, li_42, li_43, li_45, li_48, li_56, li_57, li_59, li_60, li_61, li_64, li_91, li_97, li_99, li_100, li_122, li_150, li_160, li_200, li_201, li_255, li_300, li_303, li_304, li_305, li_306, li_312, li_400, li_500, li_999, li_1003, li_3099, li_99999, li_100000, li_1000000, li_65, li_23, li_neg]); (try simp (disch := omega) only [f_X6_kinds, e1, q2, ic_le_f, ic_le_t, ic_lt_f, ic_lt_t, ic_eq_f, ic_eq_t, ic_im, ic_mi, ic_mm_t, ic_mm_f, ic_mlt, ic_mle, ic_ilem, ic_iltm, ic_mmle_t, ic_mmle_f, pu_add, pu_mul, pu_in, pu_ck, pu_let, pu_cl, pu_cpok, pu_inr, Option.bind_some, ite_true, ite_false, pu_dm, pu_dv, pu_sub, nt_dm, if_true, if_false]))
    · ((try simp only [f_X7_kinds, e3, q3, b_X7_kinds_28, q4, li_0, li_1, li_2, li_3, li_4, li_5, li_6, li_7, li_8, li_9, li_10, li_11, li_12, li_13, li_14, li_15, li_16, li_17, li_18, li_19, li_20, li_30, li_31, li_32, li_33, li_40, li_41, li_42, li_43, li_45, li_48, li_56, li_57, li_59, li_60, li_61, li_64, li_91, li_97, li_99, li_100, li_122, li_150, li_160, li_200, li_201, li_255, li_300, li_303, li_304, li_305, li_306, li_312, li_400, li_500, li_999, li_1003, li_3099, li_99999, li_100000, li_1000000, li_65, li_23, li_neg]); (try simp (disch := omega) only [f_X7_kinds, e3, q3, b_X7_kinds_28, q4, ic_le_f, ic_le_t, ic_lt_f, ic_lt_t, ic_eq_f, ic_eq_t, ic_im, ic_mi, ic_mm_t, ic_mm_f, ic_mlt, ic_mle, ic_ilem, ic_iltm, ic_mmle_t, ic_mmle_f, pu_add, pu_mul, pu_in, pu_ck, pu_let, pu_cl, pu_cpok, pu_inr, Option.bind_some, ite_true, ite_false, pu_dm, pu_dv, pu_sub, nt_dm, if_true, if_false]))
  obtain ⟨i, hi⟩ : ∃ i, i = D / 10 := ⟨_, rfl⟩
  obtain ⟨k, hk⟩ : ∃ k, k = D % 10 := ⟨_, rfl⟩
  have hi3 : i < 2 ^ 31 := by omega
  by_cases z : i < H.n
  rotate_left
  · have g1 : f_X6_isLinen m (nI i) = some (nI 0) := by rw [kisLinen c hi3, if_neg z]
    have g2 : f_X7_isLinen m (nI i) = some (nI 0) := by rw [r7isLinen r n8 hi3, if_neg z]
    refine ⟨nM 5, m, m, ?_, ?_, Rel.mk hD⟩
    · ((try simp only [f_X6_kinds, e1, li_0, li_1, li_2, li_3, li_4, li_5, li_6, li_7, li_8, li_9, li_10, li_11, li_12, li_13, li_14, li_15, li_16, li_17, li_18, li_19, li_20, li_30, li_31, li_32, li_33, li_40, li_41, li_42, li_43, li_45, li_48, li_56, li_57, li_59, li_60, li_61, li_64, li_91, li_97, li_99, li_100, li_122, li_150, li_160, li_200, li_201, li_255, li_300, li_303, li_304, li_305, li_306, li_312, li_400, li_500, li_999, li_1003, li_3099, li_99999, li_100000, li_1000000, li_65, li_23, li_neg]); (try simp (disch := omega) only [f_X6_kinds, e1, ic_le_f, ic_le_t, ic_lt_f, ic_lt_t, ic_eq_f, ic_eq_t, ic_im, ic_mi, ic_mm_t, ic_mm_f, ic_mlt, ic_mle, ic_ilem, ic_iltm, ic_mmle_t, ic_mmle_f, pu_add, pu_mul, pu_in, pu_ck, pu_let, pu_cl, pu_cpok, pu_inr, Option.bind_some, ite_true, ite_false, pu_dm, pu_dv, pu_sub, nt_dm, if_true, if_false]))
      rw [← hi, g1]
      ((try simp only [li_0, li_1, li_2, li_3, li_4, li_5, li_6, li_7, li_8, li_9, li_10, li_11, li_12, li_13, li_14, li_15, li_16, li_17, li_18, li_19, li_20, li_30, li_31, li_32, li_33, li_40, li_41, li_42, li_43, li_45, li_48, li_56, li_57, li_59, li_60, li_61, li_64, li_91, li_97, li_99, li_100, li_122, li_150, li_160, li_200, li_201, li_255, li_300, li_303, li_304, li_305, li_306, li_312, li_400, li_500, li_999, li_1003, li_3099, li_99999, li_100000, li_1000000, li_65, li_23, li_neg]); (try simp (disch := omega) only [ic_le_f, ic_le_t, ic_lt_f, ic_lt_t, ic_eq_f, ic_eq_t, ic_im, ic_mi, ic_mm_t, ic_mm_f, ic_mlt, ic_mle, ic_ilem, ic_iltm, ic_mmle_t, ic_mmle_f, pu_add, pu_mul, pu_in, pu_ck, pu_let, pu_cl, pu_cpok, pu_inr, Option.bind_some, ite_true, ite_false, pu_dm, pu_dv, pu_sub, nt_dm, if_true, if_false]))
    · ((try simp only [f_X7_kinds, e3, b_X7_kinds_28, li_0, li_1, li_2, li_3, li_4, li_5, li_6, li_7, li_8, li_9, li_10, li_11, li_12, li_13, li_14, li_15, li_16, li_17, li_18, li_19, li_20, li_30, li_31, li_32, li_33, li_40, li_41, li_42, li_43, li_45, li_48, li_56, li_57, li_59, li_60, li_61, li_64, li_91, li_97, li_99, li_100, li_122, li_150, li_160, li_200, li_201, li_255, li_300, li_303, li_304, li_305, li_306, li_312, li_400, li_500, li_999, li_1003, li_3099, li_99999, li_100000, li_1000000, li_65, li_23, li_neg]); (try simp (disch := omega) only [f_X7_kinds, e3, b_X7_kinds_28, ic_le_f, ic_le_t, ic_lt_f, ic_lt_t, ic_eq_f, ic_eq_t, ic_im, ic_mi, ic_mm_t, ic_mm_f, ic_mlt, ic_mle, ic_ilem, ic_iltm, ic_mmle_t, ic_mmle_f, pu_add, pu_mul, pu_in, pu_ck, pu_let, pu_cl, pu_cpok, pu_inr, Option.bind_some, ite_true, ite_false, pu_dm, pu_dv, pu_sub, nt_dm, if_true, if_false]))
      rw [← hi, g2]
      ((try simp only [li_0, li_1, li_2, li_3, li_4, li_5, li_6, li_7, li_8, li_9, li_10, li_11, li_12, li_13, li_14, li_15, li_16, li_17, li_18, li_19, li_20, li_30, li_31, li_32, li_33, li_40, li_41, li_42, li_43, li_45, li_48, li_56, li_57, li_59, li_60, li_61, li_64, li_91, li_97, li_99, li_100, li_122, li_150, li_160, li_200, li_201, li_255, li_300, li_303, li_304, li_305, li_306, li_312, li_400, li_500, li_999, li_1003, li_3099, li_99999, li_100000, li_1000000, li_65, li_23, li_neg]); (try simp (disch := omega) only [ic_le_f, ic_le_t, ic_lt_f, ic_lt_t, ic_eq_f, ic_eq_t, ic_im, ic_mi, ic_mm_t, ic_mm_f, ic_mlt, ic_mle, ic_ilem, ic_iltm, ic_mmle_t, ic_mmle_f, pu_add, pu_mul, pu_in, pu_ck, pu_let, pu_cl, pu_cpok, pu_inr, Option.bind_some, ite_true, ite_false, pu_dm, pu_dv, pu_sub, nt_dm, if_true, if_false]))
  have g1 : f_X6_isLinen m (nI i) = some (nI 1) := by rw [kisLinen c hi3, if_pos z]
  have g2 : ∀ x, MH x H → f_X7_isLinen x (nI i) = some (nI 1) := fun x hx => by rw [r7isLinen hx n8 hi3, if_pos z]
  rcases Nat.lt_or_ge 1 k with y | y
  · refine ⟨nM 7, m, m, ?_, ?_, Rel.mk hD⟩
    · ((try simp only [f_X6_kinds, e1, li_0, li_1, li_2, li_3, li_4, li_5, li_6, li_7, li_8, li_9, li_10, li_11, li_12, li_13, li_14, li_15, li_16, li_17, li_18, li_19, li_20, li_30, li_31, li_32, li_33, li_40, li_41, li_42, li_43, li_45, li_48, li_56, li_57, li_59, li_60, li_61, li_64, li_91, li_97, li_99, li_100, li_122, li_150, li_160, li_200, li_201, li_255, li_300, li_303, li_304, li_305, li_306, li_312, li_400, li_500, li_999, li_1003, li_3099, li_99999, li_100000, li_1000000, li_65, li_23, li_neg]); (try simp (disch := omega) only [f_X6_kinds, e1, ic_le_f, ic_le_t, ic_lt_f, ic_lt_t, ic_eq_f, ic_eq_t, ic_im, ic_mi, ic_mm_t, ic_mm_f, ic_mlt, ic_mle, ic_ilem, ic_iltm, ic_mmle_t, ic_mmle_f, pu_add, pu_mul, pu_in, pu_ck, pu_let, pu_cl, pu_cpok, pu_inr, Option.bind_some, ite_true, ite_false, pu_dm, pu_dv, pu_sub, nt_dm, if_true, if_false]))
      rw [← hi, g1]
      ((try simp only [li_0, li_1, li_2, li_3, li_4, li_5, li_6, li_7, li_8, li_9, li_10, li_11, li_12, li_13, li_14, li_15, li_16, li_17, li_18, li_19, li_20, li_30, li_31, li_32, li_33, li_40, li_41, li_42, li_43, li_45, li_48, li_56, li_57, li_59, li_60, li_61, li_64, li_91, li_97, li_99, li_100, li_122, li_150, li_160, li_200, li_201, li_255, li_300, li_303, li_304, li_305, li_306, li_312, li_400, li_500, li_999, li_1003, li_3099, li_99999, li_100000, li_1000000, li_65, li_23, li_neg]); (try simp (disch := omega) only [ic_le_f, ic_le_t, ic_lt_f, ic_lt_t, ic_eq_f, ic_eq_t, ic_im, ic_mi, ic_mm_t, ic_mm_f, ic_mlt, ic_mle, ic_ilem, ic_iltm, ic_mmle_t, ic_mmle_f, pu_add, pu_mul, pu_in, pu_ck, pu_let, pu_cl, pu_cpok, pu_inr, Option.bind_some, ite_true, ite_false, pu_dm, pu_dv, pu_sub, nt_dm, if_true, if_false]))
    · ((try simp only [f_X7_kinds, e3, b_X7_kinds_28, li_0, li_1, li_2, li_3, li_4, li_5, li_6, li_7, li_8, li_9, li_10, li_11, li_12, li_13, li_14, li_15, li_16, li_17, li_18, li_19, li_20, li_30, li_31, li_32, li_33, li_40, li_41, li_42, li_43, li_45, li_48, li_56, li_57, li_59, li_60, li_61, li_64, li_91, li_97, li_99, li_100, li_122, li_150, li_160, li_200, li_201, li_255, li_300, li_303, li_304, li_305, li_306, li_312, li_400, li_500, li_999, li_1003, li_3099, li_99999, li_100000, li_1000000, li_65, li_23, li_neg]); (try simp (disch := omega) only [f_X7_kinds, e3, b_X7_kinds_28, ic_le_f, ic_le_t, ic_lt_f, ic_lt_t, ic_eq_f, ic_eq_t, ic_im, ic_mi, ic_mm_t, ic_mm_f, ic_mlt, ic_mle, ic_ilem, ic_iltm, ic_mmle_t, ic_mmle_f, pu_add, pu_mul, pu_in, pu_ck, pu_let, pu_cl, pu_cpok, pu_inr, Option.bind_some, ite_true, ite_false, pu_dm, pu_dv, pu_sub, nt_dm, if_true, if_false]))
      rw [← hi, g2 m r, ← hk]
      ((try simp only [f_X7_in, li_0, li_1, li_2, li_3, li_4, li_5, li_6, li_7, li_8, li_9, li_10, li_11, li_12, li_13, li_14, li_15, li_16, li_17, li_18, li_19, li_20, li_30, li_31, li_32, li_33, li_40, li_41, li_42, li_43, li_45, li_48, li_56, li_57, li_59, li_60, li_61, li_64, li_91, li_97, li_99, li_100, li_122, li_150, li_160, li_200, li_201, li_255, li_300, li_303, li_304, li_305, li_306, li_312, li_400, li_500, li_999, li_1003, li_3099, li_99999, li_100000, li_1000000, li_65, li_23, li_neg]); (try simp (disch := omega) only [f_X7_in, ic_le_f, ic_le_t, ic_lt_f, ic_lt_t, ic_eq_f, ic_eq_t, ic_im, ic_mi, ic_mm_t, ic_mm_f, ic_mlt, ic_mle, ic_ilem, ic_iltm, ic_mmle_t, ic_mmle_f, pu_add, pu_mul, pu_in, pu_ck, pu_let, pu_cl, pu_cpok, pu_inr, Option.bind_some, ite_true, ite_false, pu_dm, pu_dv, pu_sub, nt_dm, if_true, if_false]))
  have av := v.av i
  obtain ⟨E, hE⟩ : ∃ E : Nat, E = if k = 0 then 6 else 10 := ⟨_, rfl⟩
  have hE10 : E ≤ 10 := by
    rw [hE]
    split <;> omega
  have hVV : ∀ j, j < E → HV (H.setA i (aU (H.A i) k j)) := by
    intro j hj
    rw [hE] at hj
    have hk2 : k = 0 ∨ k = 1 := by omega
    refine HV.setA v z (av.u ?_) (fun p => ?_)
    · rcases hk2 with rfl | rfl
      · rw [if_pos rfl] at hj
        rw [if_pos rfl]
        omega
      · rw [if_neg (by omega)] at hj
        rw [if_neg (by omega), if_pos rfl]
        omega
    · rw [aU_n (by omega), aU_n (by omega)]
      exact v.fr i p
  obtain ⟨fo, hfo⟩ : ∃ fo : Nat → Nat, ∀ j, fo j = foR (fun i => m 35 (40 * s + i)) (thk S n (H.setA i (aU (H.A i) k j))).1.A H.n := ⟨_, fun _ => rfl⟩
  have hle : ∀ j, fo j ≤ 8 := fun j => by
    rw [hfo]
    exact Nat.le_trans (foR_le _ _ _) v.n8
  have hi8 : i < 8 := by omega
  obtain ⟨m1, a1, a2⟩ := bitLoop (E := E) fo (f := fun s' : qaM × Int32 × Int32 => b_X6_kinds_69 s'.1 (nI s) (nI n) (nI D) (nI k) s'.2.1 (nI E) s'.2.2) (fun x => qF kL m x) (fun x => qF kL m x) (m := m) (by omega) (qF.rf _ _) (by
    intro j x acc hj hf
    obtain ⟨x1, d1, d2, d3⟩ := kbeg (c.kL hf) hf
    obtain ⟨x2, d4, d5, d6⟩ := cnotes (h := 20) (i := i) (k := k) (v := j) d2.1 hi8 (by omega) (fun w => by omega)
    have cy2 : CY x2 20 (ty0 (H.setA i (aU (H.A i) k j))) := ⟨d5, d2.2.F d6 (by decide)⟩
    have f4 : qF kL m x2 := d3.t2 d6 (by simp [kL])
    obtain ⟨x3, k1, k2, k3⟩ := kthk (n := n) cy2 (hVV j hj) (t.2.2.2.2.1.kL f4) t.2.2.2.2.2.2 hl (by omega) f4
    have hv := thk_V (S := S) (n := n) (hVV j hj)
    have hk := kbit (s := s) (k := j) (fo := fo) (g := fun i => m 35 (40 * s + i)) k2 hv.1 hs (by rw [k3 34 (by decide), h34, hv.2.1]; rfl) (fun i _ => by rw [k3 35 (by decide)]) (by rw [hfo, hv.2.1]; rfl)
    refine ⟨x3, ?_, k3⟩
    show b_X6_kinds_69 x (nI s) (nI n) (nI D) (nI k) acc (nI E) (nI j) = _
    unfold b_X6_kinds_69
    rw [d1]
    ((try simp only [Nat.zero_add, li_0, li_1, li_2, li_3, li_4, li_5, li_6, li_7, li_8, li_9, li_10, li_11, li_12, li_13, li_14, li_15, li_16, li_17, li_18, li_19, li_20, li_30, li_31, li_32, li_33, li_40, li_41, li_42, li_43, li_45, li_48, li_56, li_57, li_59, li_60, li_61, li_64, li_91, li_97, li_99, li_100, li_122, li_150, li_160, li_200, li_201, li_255, li_300, li_303, li_304, li_305, li_306, li_312, li_400, li_500, li_999, li_1003, li_3099, li_99999, li_100000, li_1000000, li_65, li_23, li_neg]); (try simp (disch := omega) only [Nat.zero_add, ic_le_f, ic_le_t, ic_lt_f, ic_lt_t, ic_eq_f, ic_eq_t, ic_im, ic_mi, ic_mm_t, ic_mm_f, ic_mlt, ic_mle, ic_ilem, ic_iltm, ic_mmle_t, ic_mmle_f, pu_add, pu_mul, pu_in, pu_ck, pu_let, pu_cl, pu_cpok, pu_inr, Option.bind_some, ite_true, ite_false, pu_dm, pu_dv, pu_sub, nt_dm, if_true, if_false]))
    rw [← hi, d4]
    ((try simp only [li_0, li_1, li_2, li_3, li_4, li_5, li_6, li_7, li_8, li_9, li_10, li_11, li_12, li_13, li_14, li_15, li_16, li_17, li_18, li_19, li_20, li_30, li_31, li_32, li_33, li_40, li_41, li_42, li_43, li_45, li_48, li_56, li_57, li_59, li_60, li_61, li_64, li_91, li_97, li_99, li_100, li_122, li_150, li_160, li_200, li_201, li_255, li_300, li_303, li_304, li_305, li_306, li_312, li_400, li_500, li_999, li_1003, li_3099, li_99999, li_100000, li_1000000, li_65, li_23, li_neg]); (try simp (disch := omega) only [ic_le_f, ic_le_t, ic_lt_f, ic_lt_t, ic_eq_f, ic_eq_t, ic_im, ic_mi, ic_mm_t, ic_mm_f, ic_mlt, ic_mle, ic_ilem, ic_iltm, ic_mmle_t, ic_mmle_f, pu_add, pu_mul, pu_in, pu_ck, pu_let, pu_cl, pu_cpok, pu_inr, Option.bind_some, ite_true, ite_false, pu_dm, pu_dv, pu_sub, nt_dm, if_true, if_false]))
    rw [k1]
    ((try simp only [li_0, li_1, li_2, li_3, li_4, li_5, li_6, li_7, li_8, li_9, li_10, li_11, li_12, li_13, li_14, li_15, li_16, li_17, li_18, li_19, li_20, li_30, li_31, li_32, li_33, li_40, li_41, li_42, li_43, li_45, li_48, li_56, li_57, li_59, li_60, li_61, li_64, li_91, li_97, li_99, li_100, li_122, li_150, li_160, li_200, li_201, li_255, li_300, li_303, li_304, li_305, li_306, li_312, li_400, li_500, li_999, li_1003, li_3099, li_99999, li_100000, li_1000000, li_65, li_23, li_neg]); (try simp (disch := omega) only [ic_le_f, ic_le_t, ic_lt_f, ic_lt_t, ic_eq_f, ic_eq_t, ic_im, ic_mi, ic_mm_t, ic_mm_f, ic_mlt, ic_mle, ic_ilem, ic_iltm, ic_mmle_t, ic_mmle_f, pu_add, pu_mul, pu_in, pu_ck, pu_let, pu_cl, pu_cpok, pu_inr, Option.bind_some, ite_true, ite_false, pu_dm, pu_dv, pu_sub, nt_dm, if_true, if_false]))
    rw [hk]
    ((try simp only [li_0, li_1, li_2, li_3, li_4, li_5, li_6, li_7, li_8, li_9, li_10, li_11, li_12, li_13, li_14, li_15, li_16, li_17, li_18, li_19, li_20, li_30, li_31, li_32, li_33, li_40, li_41, li_42, li_43, li_45, li_48, li_56, li_57, li_59, li_60, li_61, li_64, li_91, li_97, li_99, li_100, li_122, li_150, li_160, li_200, li_201, li_255, li_300, li_303, li_304, li_305, li_306, li_312, li_400, li_500, li_999, li_1003, li_3099, li_99999, li_100000, li_1000000, li_65, li_23, li_neg]); (try simp (disch := omega) only [ic_le_f, ic_le_t, ic_lt_f, ic_lt_t, ic_eq_f, ic_eq_t, ic_im, ic_mi, ic_mm_t, ic_mm_f, ic_mlt, ic_mle, ic_ilem, ic_iltm, ic_mmle_t, ic_mmle_f, pu_add, pu_mul, pu_in, pu_ck, pu_let, pu_cl, pu_cpok, pu_inr, Option.bind_some, ite_true, ite_false, pu_dm, pu_dv, pu_sub, nt_dm, if_true, if_false]))) (by
    intro x acc hf
    refine ⟨x, ?_, hf⟩
    show b_X6_kinds_69 x (nI s) (nI n) (nI D) (nI k) acc (nI E) (nI E) = _
    unfold b_X6_kinds_69
    ((try simp only [li_0, li_1, li_2, li_3, li_4, li_5, li_6, li_7, li_8, li_9, li_10, li_11, li_12, li_13, li_14, li_15, li_16, li_17, li_18, li_19, li_20, li_30, li_31, li_32, li_33, li_40, li_41, li_42, li_43, li_45, li_48, li_56, li_57, li_59, li_60, li_61, li_64, li_91, li_97, li_99, li_100, li_122, li_150, li_160, li_200, li_201, li_255, li_300, li_303, li_304, li_305, li_306, li_312, li_400, li_500, li_999, li_1003, li_3099, li_99999, li_100000, li_1000000, li_65, li_23, li_neg]); (try simp (disch := omega) only [ic_le_f, ic_le_t, ic_lt_f, ic_lt_t, ic_eq_f, ic_eq_t, ic_im, ic_mi, ic_mm_t, ic_mm_f, ic_mlt, ic_mle, ic_ilem, ic_iltm, ic_mmle_t, ic_mmle_f, pu_add, pu_mul, pu_in, pu_ck, pu_let, pu_cl, pu_cpok, pu_inr, Option.bind_some, ite_true, ite_false, pu_dm, pu_dv, pu_sub, nt_dm, if_true, if_false])))
  have r1m : MH m1 H := r.cl a2 (by decide)
  have tr := t.2.2.2.2.2.1.F a2 (by decide) (by decide)
  have e37 : m1 37 i = nI (H.A i 0) := r1m.1.1 i z
  have e38 : m1 38 i = nI (H.A i 1) := r1m.1.2.1 i z
  obtain ⟨ka, hka⟩ : ∃ ka : Nat → Nat, ∀ j, ka j = if k = 0 then j else H.A i 0 := ⟨_, fun _ => rfl⟩
  obtain ⟨kb, hkb⟩ : ∃ kb : Nat → Nat, ∀ j, kb j = if k = 1 then j else H.A i 1 := ⟨_, fun _ => rfl⟩
  have hkin : ∀ j, kin2 H i (ka j) (kb j) = H.setA i (aU (H.A i) k j) := by
    intro j
    have hk2 : k = 0 ∨ k = 1 := by omega
    rw [hka, hkb]
    rcases hk2 with w | w
    · rw [w, if_pos rfl, if_neg (by omega), kin2_0]
    · rw [w, if_neg (by omega), if_pos rfl, kin2_1]
  have h85 : ∀ x acc j, j < E → b_X7_kinds_85 x (nI s) (nI n) (nI i) (nI k) (nI (H.A i 0)) (nI (H.A i 1)) acc (nI j) = Option.bind (f_X7_unlike (qa_st (qa_st x 37 i (nI (ka j))) 38 i (nI (kb j))) (nI s) (nI n)) (fun q17 => if q17.1 = nM 1 then (b_X7_kinds_161 q17.2 (nI s) (nI n) (nI i) (nI k) (nI (H.A i 0)) (nI (H.A i 1)) (nI j) acc (nI 1 <<< (nI j &&& nI 31))) else (b_X7_kinds_161 q17.2 (nI s) (nI n) (nI i) (nI k) (nI (H.A i 0)) (nI (H.A i 1)) (nI j) acc (nI 0))) := by
    intro x acc j hj
    have hk2 : k = 0 ∨ k = 1 := by omega
    rw [hka, hkb]
    rcases hk2 with w | w
    · rw [w, if_pos rfl] at hE
      rw [w, if_pos rfl, if_neg (by omega)]
      ((try simp only [b_X7_kinds_85, b_X7_kinds_99, b_X7_kinds_120, b_X7_kinds_140, li_0, li_1, li_2, li_3, li_4, li_5, li_6, li_7, li_8, li_9, li_10, li_11, li_12, li_13, li_14, li_15, li_16, li_17, li_18, li_19, li_20, li_30, li_31, li_32, li_33, li_40, li_41, li_42, li_43, li_45, li_48, li_56, li_57, li_59, li_60, li_61, li_64, li_91, li_97, li_99, li_100, li_122, li_150, li_160, li_200, li_201, li_255, li_300, li_303, li_304, li_305, li_306, li_312, li_400, li_500, li_999, li_1003, li_3099, li_99999, li_100000, li_1000000, li_65, li_23, li_neg]); (try simp (disch := omega) only [b_X7_kinds_85, b_X7_kinds_99, b_X7_kinds_120, b_X7_kinds_140, ic_le_f, ic_le_t, ic_lt_f, ic_lt_t, ic_eq_f, ic_eq_t, ic_im, ic_mi, ic_mm_t, ic_mm_f, ic_mlt, ic_mle, ic_ilem, ic_iltm, ic_mmle_t, ic_mmle_f, pu_add, pu_mul, pu_in, pu_ck, pu_let, pu_cl, pu_cpok, pu_inr, Option.bind_some, ite_true, ite_false, pu_dm, pu_dv, pu_sub, nt_dm, if_true, if_false]))
    · rw [w, if_neg (by omega)] at hE
      rw [w, if_neg (by omega), if_pos rfl]
      ((try simp only [b_X7_kinds_85, b_X7_kinds_99, b_X7_kinds_120, b_X7_kinds_140, li_0, li_1, li_2, li_3, li_4, li_5, li_6, li_7, li_8, li_9, li_10, li_11, li_12, li_13, li_14, li_15, li_16, li_17, li_18, li_19, li_20, li_30, li_31, li_32, li_33, li_40, li_41, li_42, li_43, li_45, li_48, li_56, li_57, li_59, li_60, li_61, li_64, li_91, li_97, li_99, li_100, li_122, li_150, li_160, li_200, li_201, li_255, li_300, li_303, li_304, li_305, li_306, li_312, li_400, li_500, li_999, li_1003, li_3099, li_99999, li_100000, li_1000000, li_65, li_23, li_neg]); (try simp (disch := omega) only [b_X7_kinds_85, b_X7_kinds_99, b_X7_kinds_120, b_X7_kinds_140, ic_le_f, ic_le_t, ic_lt_f, ic_lt_t, ic_eq_f, ic_eq_t, ic_im, ic_mi, ic_mm_t, ic_mm_f, ic_mlt, ic_mle, ic_ilem, ic_iltm, ic_mmle_t, ic_mmle_f, pu_add, pu_mul, pu_in, pu_ck, pu_let, pu_cl, pu_cpok, pu_inr, Option.bind_some, ite_true, ite_false, pu_dm, pu_dv, pu_sub, nt_dm, if_true, if_false]))
  have hend : ∀ x acc, b_X7_kinds_85 x (nI s) (nI n) (nI i) (nI k) (nI (H.A i 0)) (nI (H.A i 1)) acc (nI E) = some (.inr (acc, qa_st (qa_st x 37 i (nI (H.A i 0))) 38 i (nI (H.A i 1)))) := by
    intro x acc
    have hk2 : k = 0 ∨ k = 1 := by omega
    rcases hk2 with w | w
    · rw [w, if_pos rfl] at hE
      rw [w, hE]
      ((try simp only [b_X7_kinds_85, b_X7_kinds_99, b_X7_kinds_170, li_0, li_1, li_2, li_3, li_4, li_5, li_6, li_7, li_8, li_9, li_10, li_11, li_12, li_13, li_14, li_15, li_16, li_17, li_18, li_19, li_20, li_30, li_31, li_32, li_33, li_40, li_41, li_42, li_43, li_45, li_48, li_56, li_57, li_59, li_60, li_61, li_64, li_91, li_97, li_99, li_100, li_122, li_150, li_160, li_200, li_201, li_255, li_300, li_303, li_304, li_305, li_306, li_312, li_400, li_500, li_999, li_1003, li_3099, li_99999, li_100000, li_1000000, li_65, li_23, li_neg]); (try simp (disch := omega) only [b_X7_kinds_85, b_X7_kinds_99, b_X7_kinds_170, ic_le_f, ic_le_t, ic_lt_f, ic_lt_t, ic_eq_f, ic_eq_t, ic_im, ic_mi, ic_mm_t, ic_mm_f, ic_mlt, ic_mle, ic_ilem, ic_iltm, ic_mmle_t, ic_mmle_f, pu_add, pu_mul, pu_in, pu_ck, pu_let, pu_cl, pu_cpok, pu_inr, Option.bind_some, ite_true, ite_false, pu_dm, pu_dv, pu_sub, nt_dm, if_true, if_false]))
    · rw [w, if_neg (by omega)] at hE
      rw [w, hE]
      ((try simp only [b_X7_kinds_85, b_X7_kinds_99, b_X7_kinds_170, li_0, li_1, li_2, li_3, li_4, li_5, li_6, li_7, li_8, li_9, li_10, li_11, li_12, li_13, li_14, li_15, li_16, li_17, li_18, li_19, li_20, li_30, li_31, li_32, li_33, li_40, li_41, li_42, li_43, li_45, li_48, li_56, li_57, li_59, li_60, li_61, li_64, li_91, li_97, li_99, li_100, li_122, li_150, li_160, li_200, li_201, li_255, li_300, li_303, li_304, li_305, li_306, li_312, li_400, li_500, li_999, li_1003, li_3099, li_99999, li_100000, li_1000000, li_65, li_23, li_neg]); (try simp (disch := omega) only [b_X7_kinds_85, b_X7_kinds_99, b_X7_kinds_170, ic_le_f, ic_le_t, ic_lt_f, ic_lt_t, ic_eq_f, ic_eq_t, ic_im, ic_mi, ic_mm_t, ic_mm_f, ic_mlt, ic_mle, ic_ilem, ic_iltm, ic_mmle_t, ic_mmle_f, pu_add, pu_mul, pu_in, pu_ck, pu_let, pu_cl, pu_cpok, pu_inr, Option.bind_some, ite_true, ite_false, pu_dm, pu_dv, pu_sub, nt_dm, if_true, if_false]))
  have hself : kin2 H i (H.A i 0) (H.A i 1) = H := by rw [kin2_0, aU_self, setA_self]
  obtain ⟨m2, b1, b2, b3, b4⟩ := bitLoop (E := E) fo (f := fun s' : qaM × Int32 × Int32 => b_X7_kinds_85 s'.1 (nI s) (nI n) (nI i) (nI k) (nI (H.A i 0)) (nI (H.A i 1)) s'.2.1 s'.2.2) (fun x => (∃ a b, MH x (kin2 H i a b)) ∧ qF rL m1 x ∧ o36l oL m1 x) (fun x => MH x H ∧ qF rL m1 x ∧ o36l oL m1 x) (m := m1) (by omega) ⟨⟨H.A i 0, H.A i 1, by rw [hself]; exact r1m⟩, qF.rf _ _, o36l.rf _ _⟩ (by
    rintro j x acc hj ⟨⟨u1, u2, hm1⟩, hf, ho⟩
    have f1 : qF [37, 38] x (qa_st (qa_st x 37 i (nI (ka j))) 38 i (nI (kb j))) := ((qF.rf _ x).stl (by simp)).stl (by simp)
    have f1r := hf.t2 f1 (by simp [rL])
    have hm2 := hm1.kin (a2 := ka j) (b2 := kb j)
    rw [hkin] at hm2
    obtain ⟨x2, k1, k2, k3, k4⟩ := r7unlike (s := s) (n := n) (g := fun i => m 35 (40 * s + i)) hm2 (hVV j hj) ((tr.rL hf).F f1 (by simp) (by simp)) t.2.2.2.2.2.2 hl (by omega) f1r (ho.tr (o36l.q (k := []) f1 (by simp)) (fun _ z => z) (by simp)) hs (fun i hi => by rw [f1r 50 (by decide)]; exact sh.g hs a2 (by decide) i hi)
    have hn2 : (H.setA i (aU (H.A i) k j)).n = H.n := rfl
    rw [hn2, ← hfo] at k1
    refine ⟨x2, ?_, ⟨ka j, kb j, by rw [hkin]; exact k2⟩, k3, k4⟩
    show b_X7_kinds_85 x (nI s) (nI n) (nI i) (nI k) (nI (H.A i 0)) (nI (H.A i 1)) acc (nI j) = _
    rw [h85 x acc j hj, k1, Option.bind_some]
    unfold btF
    show (if plI (fo j) = nM 1 then _ else _) = _
    rw [btF_c (hle j)]
    by_cases w : fo j = 0
    · rw [if_pos w, if_pos w]
      ((try simp only [b_X7_kinds_161, li_0, li_1, li_2, li_3, li_4, li_5, li_6, li_7, li_8, li_9, li_10, li_11, li_12, li_13, li_14, li_15, li_16, li_17, li_18, li_19, li_20, li_30, li_31, li_32, li_33, li_40, li_41, li_42, li_43, li_45, li_48, li_56, li_57, li_59, li_60, li_61, li_64, li_91, li_97, li_99, li_100, li_122, li_150, li_160, li_200, li_201, li_255, li_300, li_303, li_304, li_305, li_306, li_312, li_400, li_500, li_999, li_1003, li_3099, li_99999, li_100000, li_1000000, li_65, li_23, li_neg]); (try simp (disch := omega) only [b_X7_kinds_161, ic_le_f, ic_le_t, ic_lt_f, ic_lt_t, ic_eq_f, ic_eq_t, ic_im, ic_mi, ic_mm_t, ic_mm_f, ic_mlt, ic_mle, ic_ilem, ic_iltm, ic_mmle_t, ic_mmle_f, pu_add, pu_mul, pu_in, pu_ck, pu_let, pu_cl, pu_cpok, pu_inr, Option.bind_some, ite_true, ite_false, pu_dm, pu_dv, pu_sub, nt_dm, if_true, if_false]))
    · rw [if_neg w, if_neg w]
      ((try simp only [b_X7_kinds_161, li_0, li_1, li_2, li_3, li_4, li_5, li_6, li_7, li_8, li_9, li_10, li_11, li_12, li_13, li_14, li_15, li_16, li_17, li_18, li_19, li_20, li_30, li_31, li_32, li_33, li_40, li_41, li_42, li_43, li_45, li_48, li_56, li_57, li_59, li_60, li_61, li_64, li_91, li_97, li_99, li_100, li_122, li_150, li_160, li_200, li_201, li_255, li_300, li_303, li_304, li_305, li_306, li_312, li_400, li_500, li_999, li_1003, li_3099, li_99999, li_100000, li_1000000, li_65, li_23, li_neg]); (try simp (disch := omega) only [b_X7_kinds_161, ic_le_f, ic_le_t, ic_lt_f, ic_lt_t, ic_eq_f, ic_eq_t, ic_im, ic_mi, ic_mm_t, ic_mm_f, ic_mlt, ic_mle, ic_ilem, ic_iltm, ic_mmle_t, ic_mmle_f, pu_add, pu_mul, pu_in, pu_ck, pu_let, pu_cl, pu_cpok, pu_inr, Option.bind_some, ite_true, ite_false, pu_dm, pu_dv, pu_sub, nt_dm, if_true, if_false]))) (by
    rintro x acc ⟨⟨u1, u2, hm1⟩, hf, ho⟩
    have hm2 := hm1.kin (a2 := H.A i 0) (b2 := H.A i 1)
    rw [hself] at hm2
    exact ⟨_, hend x acc, hm2, (hf.stl (by simp [rL])).stl (by simp [rL]), ho.tr (o36l.q (k := []) (l := [37, 38]) (((qF.rf _ x).stl (by simp)).stl (by simp)) (by simp)) (fun _ z => z) (by simp)⟩)
  refine ⟨orF fo E, m1, m2, ?_, ?_, Rel.thk hD a2 b3 b4 b2⟩
  · ((try simp only [f_X6_kinds, e1, li_0, li_1, li_2, li_3, li_4, li_5, li_6, li_7, li_8, li_9, li_10, li_11, li_12, li_13, li_14, li_15, li_16, li_17, li_18, li_19, li_20, li_30, li_31, li_32, li_33, li_40, li_41, li_42, li_43, li_45, li_48, li_56, li_57, li_59, li_60, li_61, li_64, li_91, li_97, li_99, li_100, li_122, li_150, li_160, li_200, li_201, li_255, li_300, li_303, li_304, li_305, li_306, li_312, li_400, li_500, li_999, li_1003, li_3099, li_99999, li_100000, li_1000000, li_65, li_23, li_neg]); (try simp (disch := omega) only [f_X6_kinds, e1, ic_le_f, ic_le_t, ic_lt_f, ic_lt_t, ic_eq_f, ic_eq_t, ic_im, ic_mi, ic_mm_t, ic_mm_f, ic_mlt, ic_mle, ic_ilem, ic_iltm, ic_mmle_t, ic_mmle_f, pu_add, pu_mul, pu_in, pu_ck, pu_let, pu_cl, pu_cpok, pu_inr, Option.bind_some, ite_true, ite_false, pu_dm, pu_dv, pu_sub, nt_dm, if_true, if_false]))
    rw [← hi, g1, ← hk]
    ((try simp only [li_0, li_1, li_2, li_3, li_4, li_5, li_6, li_7, li_8, li_9, li_10, li_11, li_12, li_13, li_14, li_15, li_16, li_17, li_18, li_19, li_20, li_30, li_31, li_32, li_33, li_40, li_41, li_42, li_43, li_45, li_48, li_56, li_57, li_59, li_60, li_61, li_64, li_91, li_97, li_99, li_100, li_122, li_150, li_160, li_200, li_201, li_255, li_300, li_303, li_304, li_305, li_306, li_312, li_400, li_500, li_999, li_1003, li_3099, li_99999, li_100000, li_1000000, li_65, li_23, li_neg]); (try simp (disch := omega) only [ic_le_f, ic_le_t, ic_lt_f, ic_lt_t, ic_eq_f, ic_eq_t, ic_im, ic_mi, ic_mm_t, ic_mm_f, ic_mlt, ic_mle, ic_ilem, ic_iltm, ic_mmle_t, ic_mmle_f, pu_add, pu_mul, pu_in, pu_ck, pu_let, pu_cl, pu_cpok, pu_inr, Option.bind_some, ite_true, ite_false, pu_dm, pu_dv, pu_sub, nt_dm, if_true, if_false]))
    have hk2 : k = 0 ∨ k = 1 := by omega
    rcases hk2 with w | w
    · rw [w, if_pos rfl] at hE
      rw [w, hE] at a1
      rw [w]
      ((try simp only [b_X6_kinds_64, li_0, li_1, li_2, li_3, li_4, li_5, li_6, li_7, li_8, li_9, li_10, li_11, li_12, li_13, li_14, li_15, li_16, li_17, li_18, li_19, li_20, li_30, li_31, li_32, li_33, li_40, li_41, li_42, li_43, li_45, li_48, li_56, li_57, li_59, li_60, li_61, li_64, li_91, li_97, li_99, li_100, li_122, li_150, li_160, li_200, li_201, li_255, li_300, li_303, li_304, li_305, li_306, li_312, li_400, li_500, li_999, li_1003, li_3099, li_99999, li_100000, li_1000000, li_65, li_23, li_neg]); (try simp (disch := omega) only [b_X6_kinds_64, ic_le_f, ic_le_t, ic_lt_f, ic_lt_t, ic_eq_f, ic_eq_t, ic_im, ic_mi, ic_mm_t, ic_mm_f, ic_mlt, ic_mle, ic_ilem, ic_iltm, ic_mmle_t, ic_mmle_f, pu_add, pu_mul, pu_in, pu_ck, pu_let, pu_cl, pu_cpok, pu_inr, Option.bind_some, ite_true, ite_false, pu_dm, pu_dv, pu_sub, nt_dm, if_true, if_false]))
      rw [lp_X6_kinds_69, a1, hE]
    · rw [w, if_neg (by omega)] at hE
      rw [w, hE] at a1
      rw [w]
      ((try simp only [b_X6_kinds_64, li_0, li_1, li_2, li_3, li_4, li_5, li_6, li_7, li_8, li_9, li_10, li_11, li_12, li_13, li_14, li_15, li_16, li_17, li_18, li_19, li_20, li_30, li_31, li_32, li_33, li_40, li_41, li_42, li_43, li_45, li_48, li_56, li_57, li_59, li_60, li_61, li_64, li_91, li_97, li_99, li_100, li_122, li_150, li_160, li_200, li_201, li_255, li_300, li_303, li_304, li_305, li_306, li_312, li_400, li_500, li_999, li_1003, li_3099, li_99999, li_100000, li_1000000, li_65, li_23, li_neg]); (try simp (disch := omega) only [b_X6_kinds_64, ic_le_f, ic_le_t, ic_lt_f, ic_lt_t, ic_eq_f, ic_eq_t, ic_im, ic_mi, ic_mm_t, ic_mm_f, ic_mlt, ic_mle, ic_ilem, ic_iltm, ic_mmle_t, ic_mmle_f, pu_add, pu_mul, pu_in, pu_ck, pu_let, pu_cl, pu_cpok, pu_inr, Option.bind_some, ite_true, ite_false, pu_dm, pu_dv, pu_sub, nt_dm, if_true, if_false]))
      rw [lp_X6_kinds_69, a1, hE]
  · unfold f_X7_kinds
    rw [e2 _ a2]
    ((try simp only [b_X7_kinds_28, li_0, li_1, li_2, li_3, li_4, li_5, li_6, li_7, li_8, li_9, li_10, li_11, li_12, li_13, li_14, li_15, li_16, li_17, li_18, li_19, li_20, li_30, li_31, li_32, li_33, li_40, li_41, li_42, li_43, li_45, li_48, li_56, li_57, li_59, li_60, li_61, li_64, li_91, li_97, li_99, li_100, li_122, li_150, li_160, li_200, li_201, li_255, li_300, li_303, li_304, li_305, li_306, li_312, li_400, li_500, li_999, li_1003, li_3099, li_99999, li_100000, li_1000000, li_65, li_23, li_neg]); (try simp (disch := omega) only [b_X7_kinds_28, ic_le_f, ic_le_t, ic_lt_f, ic_lt_t, ic_eq_f, ic_eq_t, ic_im, ic_mi, ic_mm_t, ic_mm_f, ic_mlt, ic_mle, ic_ilem, ic_iltm, ic_mmle_t, ic_mmle_f, pu_add, pu_mul, pu_in, pu_ck, pu_let, pu_cl, pu_cpok, pu_inr, Option.bind_some, ite_true, ite_false, pu_dm, pu_dv, pu_sub, nt_dm, if_true, if_false]))
    rw [← hi, g2 _ r1m, ← hk]
    ((try simp only [f_X7_in, li_0, li_1, li_2, li_3, li_4, li_5, li_6, li_7, li_8, li_9, li_10, li_11, li_12, li_13, li_14, li_15, li_16, li_17, li_18, li_19, li_20, li_30, li_31, li_32, li_33, li_40, li_41, li_42, li_43, li_45, li_48, li_56, li_57, li_59, li_60, li_61, li_64, li_91, li_97, li_99, li_100, li_122, li_150, li_160, li_200, li_201, li_255, li_300, li_303, li_304, li_305, li_306, li_312, li_400, li_500, li_999, li_1003, li_3099, li_99999, li_100000, li_1000000, li_65, li_23, li_neg]); (try simp (disch := omega) only [f_X7_in, ic_le_f, ic_le_t, ic_lt_f, ic_lt_t, ic_eq_f, ic_eq_t, ic_im, ic_mi, ic_mm_t, ic_mm_f, ic_mlt, ic_mle, ic_ilem, ic_iltm, ic_mmle_t, ic_mmle_f, pu_add, pu_mul, pu_in, pu_ck, pu_let, pu_cl, pu_cpok, pu_inr, Option.bind_some, ite_true, ite_false, pu_dm, pu_dv, pu_sub, nt_dm, if_true, if_false]))
    rw [e37, e38, lp_X7_kinds_85, b1]
