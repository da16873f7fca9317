/-! PURE: buyBy, taken, image, back -/
noncomputable def hbF (g : Nat → Int32) (F : Nat) (H : HS) : Nat → HS
  | 0 => H
  | j + 1 => buyN (hbF g F H j) (g (F + 2 * j)) (g (F + 2 * j + 1))
theorem hbF_s (g : Nat → Int32) (F : Nat) (H : HS) (j : Nat) : hbF g F H (j + 1) = buyN (hbF g F H j) (g (F + 2 * j)) (g (F + 2 * j + 1)) := rfl
noncomputable def cbF (g : Nat → Int32) (F : Nat) (H : HS) : Nat → Nat
  | 0 => 0
  | j + 1 => cbF g F H j + (if buyA (hbF g F H j) (g (F + 2 * j)) (g (F + 2 * j + 1)) < nI 0 then 0 else 1)
theorem cbF_s (g : Nat → Int32) (F : Nat) (H : HS) (j : Nat) : cbF g F H (j + 1) = cbF g F H j + (if buyA (hbF g F H j) (g (F + 2 * j)) (g (F + 2 * j + 1)) < nI 0 then 0 else 1) := rfl
theorem hbF_V {g : Nat → Int32} {F : Nat} {H : HS} (v : HV H) (j : Nat) : HV (hbF g F H j) ∧ H.n ≤ (hbF g F H j).n ∧ (∀ i : Nat, i < H.n → (hbF g F H j).A i = H.A i) ∧ (hbF g F H j).wk = H.wk ∧ (hbF g F H j).lw = H.lw := by
  induction j with
  | zero => exact ⟨v, Nat.le_refl _, fun _ _ => rfl, rfl, rfl⟩
  | succ j ih =>
    obtain ⟨i1, i2, i3, i4, i5⟩ := ih
    obtain ⟨b1, b2, b3, b4, b5, _⟩ := buyN_V (g (F + 2 * j)) (g (F + 2 * j + 1)) i1
    rw [hbF_s]
    exact ⟨b1, Nat.le_trans i2 b2, fun i hi => by rw [b3 i (by omega), i3 i hi], b4.trans i4, b5.trans i5⟩
theorem kread {m : qaM} {s i z : Nat} (hs : s < 4) (h34 : m 34 s = nI z) (hz : z ≤ 40) (hi : i < 2 ^ 31) : f_X3_isPlace m (nI s) (nI i) = some (if i < z then nI 1 else nI 0) ∧ (i < z → f_X3_reads m (nI s) (nI i) = some (m 35 (40 * s + i))) := by
  have hp : f_X3_isPlace m (nI s) (nI i) = some (if i < z then nI 1 else nI 0) := by
    by_cases q : i < z
    · rw [if_pos q]
      ((try simp only [f_X3_isPlace, f_X6_isSheet, li_0, li_1, li_2, li_3, li_4, li_5, li_6, li_7, li_8, li_9, li_10, li_11, li_12, li_13, li_14, li_15, li_16, li_17, li_18, li_19, li_20, li_30, li_31, li_32, li_33, li_40, li_41, li_42, li_43, li_45, li_48, li_56, li_57, li_59, li_60, li_61, li_64, li_91, li_97, li_99, li_100, li_122, li_150, li_160, li_200, li_201, li_255, li_300, li_303, li_304, li_305, li_306, li_312, li_400, li_500, li_999, li_1003, li_3099, li_99999, li_100000, li_1000000, li_65, li_23, li_neg]); (try simp (disch := omega) only [f_X3_isPlace, f_X6_isSheet, ic_le_f, ic_le_t, ic_lt_f, ic_lt_t, ic_eq_f, ic_eq_t, ic_im, ic_mi, ic_mm_t, ic_mm_f, ic_mlt, ic_mle, ic_ilem, ic_iltm, ic_mmle_t, ic_mmle_f, pu_add, pu_mul, pu_in, pu_ck, pu_let, pu_cl, pu_cpok, pu_inr, Option.bind_some, ite_true, ite_false, pu_dm, pu_dv, pu_sub, nt_dm, if_true, if_false]))
      rw [h34]
      ((try simp only [li_0, li_1, li_2, li_3, li_4, li_5, li_6, li_7, li_8, li_9, li_10, li_11, li_12, li_13, li_14, li_15, li_16, li_17, li_18, li_19, li_20, li_30, li_31, li_32, li_33, li_40, li_41, li_42, li_43, li_45, li_48, li_56, li_57, li_59, li_60, li_61, li_64, li_91, li_97, li_99, li_100, li_122, li_150, li_160, li_200, li_201, li_255, li_300, li_303, li_304, li_305, li_306, li_312, li_400, li_500, li_999, li_1003, li_3099, li_99999, li_100000, li_1000000, li_65, li_23, li_neg]); (try simp (disch := omega) only [ic_le_f, ic_le_t, ic_lt_f, ic_lt_t, ic_eq_f, ic_eq_t, ic_im, ic_mi, ic_mm_t, ic_mm_f, ic_mlt, ic_mle, ic_ilem, ic_iltm, ic_mmle_t, ic_mmle_f, pu_add, pu_mul, pu_in, pu_ck, pu_let, pu_cl, pu_cpok, pu_inr, Option.bind_some, ite_true, ite_false, pu_dm, pu_dv, pu_sub, nt_dm, if_true, if_false]))
    · rw [if_neg q]
      ((try simp only [f_X3_isPlace, f_X6_isSheet, li_0, li_1, li_2, li_3, li_4, li_5, li_6, li_7, li_8, li_9, li_10, li_11, li_12, li_13, li_14, li_15, li_16, li_17, li_18, li_19, li_20, li_30, li_31, li_32, li_33, li_40, li_41, li_42, li_43, li_45, li_48, li_56, li_57, li_59, li_60, li_61, li_64, li_91, li_97, li_99, li_100, li_122, li_150, li_160, li_200, li_201, li_255, li_300, li_303, li_304, li_305, li_306, li_312, li_400, li_500, li_999, li_1003, li_3099, li_99999, li_100000, li_1000000, li_65, li_23, li_neg]); (try simp (disch := omega) only [f_X3_isPlace, f_X6_isSheet, ic_le_f, ic_le_t, ic_lt_f, ic_lt_t, ic_eq_f, ic_eq_t, ic_im, ic_mi, ic_mm_t, ic_mm_f, ic_mlt, ic_mle, ic_ilem, ic_iltm, ic_mmle_t, ic_mmle_f, pu_add, pu_mul, pu_in, pu_ck, pu_let, pu_cl, pu_cpok, pu_inr, Option.bind_some, ite_true, ite_false, pu_dm, pu_dv, pu_sub, nt_dm, if_true, if_false]))
      rw [h34]
      ((try simp only [li_0, li_1, li_2, li_3, li_4, li_5, li_6, li_7, li_8, li_9, li_10, li_11, li_12, li_13, li_14, li_15, li_16, li_17, li_18, li_19, li_20, li_30, li_31, li_32, li_33, li_40, li_41, li_42, li_43, li_45, li_48, li_56, li_57, li_59, li_60, li_61, li_64, li_91, li_97, li_99, li_100, li_122, li_150, li_160, li_200, li_201, li_255, li_300, li_303, li_304, li_305, li_306, li_312, li_400, li_500, li_999, li_1003, li_3099, li_99999, li_100000, li_1000000, li_65, li_23, li_neg]); (try simp (disch := omega) only [ic_le_f, ic_le_t, ic_lt_f, ic_lt_t, ic_eq_f, ic_eq_t, ic_im, ic_mi, ic_mm_t, ic_mm_f, ic_mlt, ic_mle, ic_ilem, ic_iltm, ic_mmle_t, ic_mmle_f, pu_add, pu_mul, pu_in, pu_ck, pu_let, pu_cl, pu_cpok, pu_inr, Option.bind_some, ite_true, ite_false, pu_dm, pu_dv, pu_sub, nt_dm, if_true, if_false]))
  refine ⟨hp, fun q => ?_⟩
  unfold f_X3_reads
  rw [hp, if_pos q]
  ((try simp only [li_0, li_1, li_2, li_3, li_4, li_5, li_6, li_7, li_8, li_9, li_10, li_11, li_12, li_13, li_14, li_15, li_16, li_17, li_18, li_19, li_20, li_30, li_31, li_32, li_33, li_40, li_41, li_42, li_43, li_45, li_48, li_56, li_57, li_59, li_60, li_61, li_64, li_91, li_97, li_99, li_100, li_122, li_150, li_160, li_200, li_201, li_255, li_300, li_303, li_304, li_305, li_306, li_312, li_400, li_500, li_999, li_1003, li_3099, li_99999, li_100000, li_1000000, li_65, li_23, li_neg]); (try simp (disch := omega) only [ic_le_f, ic_le_t, ic_lt_f, ic_lt_t, ic_eq_f, ic_eq_t, ic_im, ic_mi, ic_mm_t, ic_mm_f, ic_mlt, ic_mle, ic_ilem, ic_iltm, ic_mmle_t, ic_mmle_f, pu_add, pu_mul, pu_in, pu_ck, pu_let, pu_cl, pu_cpok, pu_inr, Option.bind_some, ite_true, ite_false, pu_dm, pu_dv, pu_sub, nt_dm, if_true, if_false]))
  rw [show s * 40 + i = 40 * s + i by omega]
theorem qp_buyBy : qaP_buyBy Rel := by
  intro m a b d e h
  obtain ⟨H, N, S, hD⟩ := h
  have ⟨c, r, v, hl, hw, t, _, _, sh, nt⟩ := hD
  rcases upTo 3 4 rfl (by omega) a with ⟨s, hs, rfl⟩ | hx
  rotate_left
  · rcases hx with ⟨h1, h2, h3, h4, h5, h6⟩ | ⟨h1, h2, h3, h4, h5, h6⟩
    all_goals
      refine ⟨nM 2, m, m, ?_, ?_, Rel.mk hD⟩
      · ((try simp only [f_X6_buyBy, f_X6_isWeeks, f_X6_isSheet, f_X6_isSeed, f_X6_isByte, h1, h2, h3, h4, h5, h6, li_0, li_1, li_2, li_3, li_4, li_5, li_6, li_7, li_8, li_9, li_10, li_11, li_12, li_13, li_14, li_15, li_16, li_17, li_18, li_19, li_20, li_30, li_31, li_32, li_33, li_40, li_41, li_42, li_43, li_45, li_48, li_56, li_57, li_59, li_60, li_61, li_64, li_91, li_97, li_99, li_100, li_122, li_150, li_160, li_200, li_201, li_255, li_300, li_303, li_304, li_305, li_306, li_312, li_400, li_500, li_999, li_1003, li_3099, li_99999, li_100000, li_1000000, li_65, li_23, li_neg]); (try simp (disch := omega) only [f_X6_buyBy, f_X6_isWeeks, f_X6_isSheet, f_X6_isSeed, f_X6_isByte, h1, h2, h3, h4, h5, h6, ic_le_f, ic_le_t, ic_lt_f, ic_lt_t, ic_eq_f, ic_eq_t, ic_im, ic_mi, ic_mm_t, ic_mm_f, ic_mlt, ic_mle, ic_ilem, ic_iltm, ic_mmle_t, ic_mmle_f, pu_add, pu_mul, pu_in, pu_ck, pu_let, pu_cl, pu_cpok, pu_inr, Option.bind_some, ite_true, ite_false, pu_dm, pu_dv, pu_sub, nt_dm, if_true, if_false]))
      · ((try simp only [f_X7_buyBy, f_X7_in, f_X7_areWeeks, f_X7_isByte, qa_bl0, qa_bl1, h1, h2, h3, h4, h5, h6, li_0, li_1, li_2, li_3, li_4, li_5, li_6, li_7, li_8, li_9, li_10, li_11, li_12, li_13, li_14, li_15, li_16, li_17, li_18, li_19, li_20, li_30, li_31, li_32, li_33, li_40, li_41, li_42, li_43, li_45, li_48, li_56, li_57, li_59, li_60, li_61, li_64, li_91, li_97, li_99, li_100, li_122, li_150, li_160, li_200, li_201, li_255, li_300, li_303, li_304, li_305, li_306, li_312, li_400, li_500, li_999, li_1003, li_3099, li_99999, li_100000, li_1000000, li_65, li_23, li_neg]); (try simp (disch := omega) only [f_X7_buyBy, f_X7_in, f_X7_areWeeks, f_X7_isByte, qa_bl0, qa_bl1, h1, h2, h3, h4, h5, h6, ic_le_f, ic_le_t, ic_lt_f, ic_lt_t, ic_eq_f, ic_eq_t, ic_im, ic_mi, ic_mm_t, ic_mm_f, ic_mlt, ic_mle, ic_ilem, ic_iltm, ic_mmle_t, ic_mmle_f, pu_add, pu_mul, pu_in, pu_ck, pu_let, pu_cl, pu_cpok, pu_inr, Option.bind_some, ite_true, ite_false, pu_dm, pu_dv, pu_sub, nt_dm, if_true, if_false]))
  rcases upTo 2 3 rfl (by omega) b with ⟨k, hk, rfl⟩ | hx
  rotate_left
  · rcases hx with ⟨h1, h2, h3, h4, h5, h6⟩ | ⟨h1, h2, h3, h4, h5, h6⟩
    all_goals
      refine ⟨nM 2, m, m, ?_, ?_, Rel.mk hD⟩
      · ((try simp only [f_X6_buyBy, f_X6_isWeeks, f_X6_isSheet, f_X6_isSeed, f_X6_isByte, h1, h2, h3, h4, h5, h6, li_0, li_1, li_2, li_3, li_4, li_5, li_6, li_7, li_8, li_9, li_10, li_11, li_12, li_13, li_14, li_15, li_16, li_17, li_18, li_19, li_20, li_30, li_31, li_32, li_33, li_40, li_41, li_42, li_43, li_45, li_48, li_56, li_57, li_59, li_60, li_61, li_64, li_91, li_97, li_99, li_100, li_122, li_150, li_160, li_200, li_201, li_255, li_300, li_303, li_304, li_305, li_306, li_312, li_400, li_500, li_999, li_1003, li_3099, li_99999, li_100000, li_1000000, li_65, li_23, li_neg]); (try simp (disch := omega) only [f_X6_buyBy, f_X6_isWeeks, f_X6_isSheet, f_X6_isSeed, f_X6_isByte, h1, h2, h3, h4, h5, h6, ic_le_f, ic_le_t, ic_lt_f, ic_lt_t, ic_eq_f, ic_eq_t, ic_im, ic_mi, ic_mm_t, ic_mm_f, ic_mlt, ic_mle, ic_ilem, ic_iltm, ic_mmle_t, ic_mmle_f, pu_add, pu_mul, pu_in, pu_ck, pu_let, pu_cl, pu_cpok, pu_inr, Option.bind_some, ite_true, ite_false, pu_dm, pu_dv, pu_sub, nt_dm, if_true, if_false]))
      · ((try simp only [f_X7_buyBy, f_X7_in, f_X7_areWeeks, f_X7_isByte, qa_bl0, qa_bl1, h1, h2, h3, h4, h5, h6, li_0, li_1, li_2, li_3, li_4, li_5, li_6, li_7, li_8, li_9, li_10, li_11, li_12, li_13, li_14, li_15, li_16, li_17, li_18, li_19, li_20, li_30, li_31, li_32, li_33, li_40, li_41, li_42, li_43, li_45, li_48, li_56, li_57, li_59, li_60, li_61, li_64, li_91, li_97, li_99, li_100, li_122, li_150, li_160, li_200, li_201, li_255, li_300, li_303, li_304, li_305, li_306, li_312, li_400, li_500, li_999, li_1003, li_3099, li_99999, li_100000, li_1000000, li_65, li_23, li_neg]); (try simp (disch := omega) only [f_X7_buyBy, f_X7_in, f_X7_areWeeks, f_X7_isByte, qa_bl0, qa_bl1, h1, h2, h3, h4, h5, h6, ic_le_f, ic_le_t, ic_lt_f, ic_lt_t, ic_eq_f, ic_eq_t, ic_im, ic_mi, ic_mm_t, ic_mm_f, ic_mlt, ic_mle, ic_ilem, ic_iltm, ic_mmle_t, ic_mmle_f, pu_add, pu_mul, pu_in, pu_ck, pu_let, pu_cl, pu_cpok, pu_inr, Option.bind_some, ite_true, ite_false, pu_dm, pu_dv, pu_sub, nt_dm, if_true, if_false]))
  rcases upTo 8 9 rfl (by omega) e with ⟨n, hn, rfl⟩ | hx
  rotate_left
  · rcases hx with ⟨h1, h2, h3, h4, h5, h6⟩ | ⟨h1, h2, h3, h4, h5, h6⟩
    all_goals
      refine ⟨nM 2, m, m, ?_, ?_, Rel.mk hD⟩
      · ((try simp only [f_X6_buyBy, f_X6_isWeeks, f_X6_isSheet, f_X6_isSeed, f_X6_isByte, h1, h2, h3, h4, h5, h6, li_0, li_1, li_2, li_3, li_4, li_5, li_6, li_7, li_8, li_9, li_10, li_11, li_12, li_13, li_14, li_15, li_16, li_17, li_18, li_19, li_20, li_30, li_31, li_32, li_33, li_40, li_41, li_42, li_43, li_45, li_48, li_56, li_57, li_59, li_60, li_61, li_64, li_91, li_97, li_99, li_100, li_122, li_150, li_160, li_200, li_201, li_255, li_300, li_303, li_304, li_305, li_306, li_312, li_400, li_500, li_999, li_1003, li_3099, li_99999, li_100000, li_1000000, li_65, li_23, li_neg]); (try simp (disch := omega) only [f_X6_buyBy, f_X6_isWeeks, f_X6_isSheet, f_X6_isSeed, f_X6_isByte, h1, h2, h3, h4, h5, h6, ic_le_f, ic_le_t, ic_lt_f, ic_lt_t, ic_eq_f, ic_eq_t, ic_im, ic_mi, ic_mm_t, ic_mm_f, ic_mlt, ic_mle, ic_ilem, ic_iltm, ic_mmle_t, ic_mmle_f, pu_add, pu_mul, pu_in, pu_ck, pu_let, pu_cl, pu_cpok, pu_inr, Option.bind_some, ite_true, ite_false, pu_dm, pu_dv, pu_sub, nt_dm, if_true, if_false]))
      · ((try simp only [f_X7_buyBy, f_X7_in, f_X7_areWeeks, f_X7_isByte, qa_bl0, qa_bl1, h1, h2, h3, h4, h5, h6, li_0, li_1, li_2, li_3, li_4, li_5, li_6, li_7, li_8, li_9, li_10, li_11, li_12, li_13, li_14, li_15, li_16, li_17, li_18, li_19, li_20, li_30, li_31, li_32, li_33, li_40, li_41, li_42, li_43, li_45, li_48, li_56, li_57, li_59, li_60, li_61, li_64, li_91, li_97, li_99, li_100, li_122, li_150, li_160, li_200, li_201, li_255, li_300, li_303, li_304, li_305, li_306, li_312, li_400, li_500, li_999, li_1003, li_3099, li_99999, li_100000, li_1000000, li_65, li_23, li_neg]); (try simp (disch := omega) only [f_X7_buyBy, f_X7_in, f_X7_areWeeks, f_X7_isByte, qa_bl0, qa_bl1, h1, h2, h3, h4, h5, h6, ic_le_f, ic_le_t, ic_lt_f, ic_lt_t, ic_eq_f, ic_eq_t, ic_im, ic_mi, ic_mm_t, ic_mm_f, ic_mlt, ic_mle, ic_ilem, ic_iltm, ic_mmle_t, ic_mmle_f, pu_add, pu_mul, pu_in, pu_ck, pu_let, pu_cl, pu_cpok, pu_inr, Option.bind_some, ite_true, ite_false, pu_dm, pu_dv, pu_sub, nt_dm, if_true, if_false]))
  obtain ⟨hsort, h48, z, hz, h34, h49⟩ := sh.at (s := s) (by omega)
  have hmi := kMiss (m := m) (s := s) (by omega)
  by_cases q : m 33 s = nM 1
  · rw [if_pos q] at hmi
    refine ⟨nM 11, m, m, ?_, ?_, Rel.mk hD⟩
    · ((try simp only [f_X6_buyBy, f_X6_isSheet, li_0, li_1, li_2, li_3, li_4, li_5, li_6, li_7, li_8, li_9, li_10, li_11, li_12, li_13, li_14, li_15, li_16, li_17, li_18, li_19, li_20, li_30, li_31, li_32, li_33, li_40, li_41, li_42, li_43, li_45, li_48, li_56, li_57, li_59, li_60, li_61, li_64, li_91, li_97, li_99, li_100, li_122, li_150, li_160, li_200, li_201, li_255, li_300, li_303, li_304, li_305, li_306, li_312, li_400, li_500, li_999, li_1003, li_3099, li_99999, li_100000, li_1000000, li_65, li_23, li_neg]); (try simp (disch := omega) only [f_X6_buyBy, f_X6_isSheet, ic_le_f, ic_le_t, ic_lt_f, ic_lt_t, ic_eq_f, ic_eq_t, ic_im, ic_mi, ic_mm_t, ic_mm_f, ic_mlt, ic_mle, ic_ilem, ic_iltm, ic_mmle_t, ic_mmle_f, pu_add, pu_mul, pu_in, pu_ck, pu_let, pu_cl, pu_cpok, pu_inr, Option.bind_some, ite_true, ite_false, pu_dm, pu_dv, pu_sub, nt_dm, if_true, if_false]))
      rw [hmi]
      ((try simp only [li_0, li_1, li_2, li_3, li_4, li_5, li_6, li_7, li_8, li_9, li_10, li_11, li_12, li_13, li_14, li_15, li_16, li_17, li_18, li_19, li_20, li_30, li_31, li_32, li_33, li_40, li_41, li_42, li_43, li_45, li_48, li_56, li_57, li_59, li_60, li_61, li_64, li_91, li_97, li_99, li_100, li_122, li_150, li_160, li_200, li_201, li_255, li_300, li_303, li_304, li_305, li_306, li_312, li_400, li_500, li_999, li_1003, li_3099, li_99999, li_100000, li_1000000, li_65, li_23, li_neg]); (try simp (disch := omega) only [ic_le_f, ic_le_t, ic_lt_f, ic_lt_t, ic_eq_f, ic_eq_t, ic_im, ic_mi, ic_mm_t, ic_mm_f, ic_mlt, ic_mle, ic_ilem, ic_iltm, ic_mmle_t, ic_mmle_f, pu_add, pu_mul, pu_in, pu_ck, pu_let, pu_cl, pu_cpok, pu_inr, Option.bind_some, ite_true, ite_false, pu_dm, pu_dv, pu_sub, nt_dm, if_true, if_false]))
    · ((try simp only [f_X7_buyBy, f_X7_in, li_0, li_1, li_2, li_3, li_4, li_5, li_6, li_7, li_8, li_9, li_10, li_11, li_12, li_13, li_14, li_15, li_16, li_17, li_18, li_19, li_20, li_30, li_31, li_32, li_33, li_40, li_41, li_42, li_43, li_45, li_48, li_56, li_57, li_59, li_60, li_61, li_64, li_91, li_97, li_99, li_100, li_122, li_150, li_160, li_200, li_201, li_255, li_300, li_303, li_304, li_305, li_306, li_312, li_400, li_500, li_999, li_1003, li_3099, li_99999, li_100000, li_1000000, li_65, li_23, li_neg]); (try simp (disch := omega) only [f_X7_buyBy, f_X7_in, ic_le_f, ic_le_t, ic_lt_f, ic_lt_t, ic_eq_f, ic_eq_t, ic_im, ic_mi, ic_mm_t, ic_mm_f, ic_mlt, ic_mle, ic_ilem, ic_iltm, ic_mmle_t, ic_mmle_f, pu_add, pu_mul, pu_in, pu_ck, pu_let, pu_cl, pu_cpok, pu_inr, Option.bind_some, ite_true, ite_false, pu_dm, pu_dv, pu_sub, nt_dm, if_true, if_false]))
      rw [h48, if_pos q]
  rw [if_neg q] at hmi
  by_cases p : m 33 s = nI k
  rotate_left
  · refine ⟨nM 13, m, m, ?_, ?_, Rel.mk hD⟩
    · ((try simp only [f_X6_buyBy, f_X6_isSheet, li_0, li_1, li_2, li_3, li_4, li_5, li_6, li_7, li_8, li_9, li_10, li_11, li_12, li_13, li_14, li_15, li_16, li_17, li_18, li_19, li_20, li_30, li_31, li_32, li_33, li_40, li_41, li_42, li_43, li_45, li_48, li_56, li_57, li_59, li_60, li_61, li_64, li_91, li_97, li_99, li_100, li_122, li_150, li_160, li_200, li_201, li_255, li_300, li_303, li_304, li_305, li_306, li_312, li_400, li_500, li_999, li_1003, li_3099, li_99999, li_100000, li_1000000, li_65, li_23, li_neg]); (try simp (disch := omega) only [f_X6_buyBy, f_X6_isSheet, ic_le_f, ic_le_t, ic_lt_f, ic_lt_t, ic_eq_f, ic_eq_t, ic_im, ic_mi, ic_mm_t, ic_mm_f, ic_mlt, ic_mle, ic_ilem, ic_iltm, ic_mmle_t, ic_mmle_f, pu_add, pu_mul, pu_in, pu_ck, pu_let, pu_cl, pu_cpok, pu_inr, Option.bind_some, ite_true, ite_false, pu_dm, pu_dv, pu_sub, nt_dm, if_true, if_false]))
      rw [hmi]
      ((try simp only [li_0, li_1, li_2, li_3, li_4, li_5, li_6, li_7, li_8, li_9, li_10, li_11, li_12, li_13, li_14, li_15, li_16, li_17, li_18, li_19, li_20, li_30, li_31, li_32, li_33, li_40, li_41, li_42, li_43, li_45, li_48, li_56, li_57, li_59, li_60, li_61, li_64, li_91, li_97, li_99, li_100, li_122, li_150, li_160, li_200, li_201, li_255, li_300, li_303, li_304, li_305, li_306, li_312, li_400, li_500, li_999, li_1003, li_3099, li_99999, li_100000, li_1000000, li_65, li_23, li_neg]); (try simp (disch := omega) only [ic_le_f, ic_le_t, ic_lt_f, ic_lt_t, ic_eq_f, ic_eq_t, ic_im, ic_mi, ic_mm_t, ic_mm_f, ic_mlt, ic_mle, ic_ilem, ic_iltm, ic_mmle_t, ic_mmle_f, pu_add, pu_mul, pu_in, pu_ck, pu_let, pu_cl, pu_cpok, pu_inr, Option.bind_some, ite_true, ite_false, pu_dm, pu_dv, pu_sub, nt_dm, if_true, if_false]))
      rw [if_neg p]
    · ((try simp only [f_X7_buyBy, f_X7_in, li_0, li_1, li_2, li_3, li_4, li_5, li_6, li_7, li_8, li_9, li_10, li_11, li_12, li_13, li_14, li_15, li_16, li_17, li_18, li_19, li_20, li_30, li_31, li_32, li_33, li_40, li_41, li_42, li_43, li_45, li_48, li_56, li_57, li_59, li_60, li_61, li_64, li_91, li_97, li_99, li_100, li_122, li_150, li_160, li_200, li_201, li_255, li_300, li_303, li_304, li_305, li_306, li_312, li_400, li_500, li_999, li_1003, li_3099, li_99999, li_100000, li_1000000, li_65, li_23, li_neg]); (try simp (disch := omega) only [f_X7_buyBy, f_X7_in, ic_le_f, ic_le_t, ic_lt_f, ic_lt_t, ic_eq_f, ic_eq_t, ic_im, ic_mi, ic_mm_t, ic_mm_f, ic_mlt, ic_mle, ic_ilem, ic_iltm, ic_mmle_t, ic_mmle_f, pu_add, pu_mul, pu_in, pu_ck, pu_let, pu_cl, pu_cpok, pu_inr, Option.bind_some, ite_true, ite_false, pu_dm, pu_dv, pu_sub, nt_dm, if_true, if_false]))
      rw [h48, if_neg q, if_neg p]
  have e6 : f_X6_buyBy m (nI s) (nI k) d (nI n) = lp_X6_buyBy_67 m (nI s) d (nI n) (nI 0) (nI 0) := by
    ((try simp only [f_X6_buyBy, f_X6_isSheet, li_0, li_1, li_2, li_3, li_4, li_5, li_6, li_7, li_8, li_9, li_10, li_11, li_12, li_13, li_14, li_15, li_16, li_17, li_18, li_19, li_20, li_30, li_31, li_32, li_33, li_40, li_41, li_42, li_43, li_45, li_48, li_56, li_57, li_59, li_60, li_61, li_64, li_91, li_97, li_99, li_100, li_122, li_150, li_160, li_200, li_201, li_255, li_300, li_303, li_304, li_305, li_306, li_312, li_400, li_500, li_999, li_1003, li_3099, li_99999, li_100000, li_1000000, li_65, li_23, li_neg]); (try simp (disch := omega) only [f_X6_buyBy, f_X6_isSheet, ic_le_f, ic_le_t, ic_lt_f, ic_lt_t, ic_eq_f, ic_eq_t, ic_im, ic_mi, ic_mm_t, ic_mm_f, ic_mlt, ic_mle, ic_ilem, ic_iltm, ic_mmle_t, ic_mmle_f, pu_add, pu_mul, pu_in, pu_ck, pu_let, pu_cl, pu_cpok, pu_inr, Option.bind_some, ite_true, ite_false, pu_dm, pu_dv, pu_sub, nt_dm, if_true, if_false]))
    rw [hmi]
    ((try simp only [li_0, li_1, li_2, li_3, li_4, li_5, li_6, li_7, li_8, li_9, li_10, li_11, li_12, li_13, li_14, li_15, li_16, li_17, li_18, li_19, li_20, li_30, li_31, li_32, li_33, li_40, li_41, li_42, li_43, li_45, li_48, li_56, li_57, li_59, li_60, li_61, li_64, li_91, li_97, li_99, li_100, li_122, li_150, li_160, li_200, li_201, li_255, li_300, li_303, li_304, li_305, li_306, li_312, li_400, li_500, li_999, li_1003, li_3099, li_99999, li_100000, li_1000000, li_65, li_23, li_neg]); (try simp (disch := omega) only [ic_le_f, ic_le_t, ic_lt_f, ic_lt_t, ic_eq_f, ic_eq_t, ic_im, ic_mi, ic_mm_t, ic_mm_f, ic_mlt, ic_mle, ic_ilem, ic_iltm, ic_mmle_t, ic_mmle_f, pu_add, pu_mul, pu_in, pu_ck, pu_let, pu_cl, pu_cpok, pu_inr, Option.bind_some, ite_true, ite_false, pu_dm, pu_dv, pu_sub, nt_dm, if_true, if_false]))
    rw [if_pos p]
  have e7 : ∀ x : qaM, x 48 = m 48 → f_X7_buyBy x (nI s) (nI k) d (nI n) = lp_X7_buyBy_64 x (nI s) d (nI n) (nI 0) (nI 0) := by
    intro x hx
    ((try simp only [f_X7_buyBy, f_X7_in, li_0, li_1, li_2, li_3, li_4, li_5, li_6, li_7, li_8, li_9, li_10, li_11, li_12, li_13, li_14, li_15, li_16, li_17, li_18, li_19, li_20, li_30, li_31, li_32, li_33, li_40, li_41, li_42, li_43, li_45, li_48, li_56, li_57, li_59, li_60, li_61, li_64, li_91, li_97, li_99, li_100, li_122, li_150, li_160, li_200, li_201, li_255, li_300, li_303, li_304, li_305, li_306, li_312, li_400, li_500, li_999, li_1003, li_3099, li_99999, li_100000, li_1000000, li_65, li_23, li_neg]); (try simp (disch := omega) only [f_X7_buyBy, f_X7_in, ic_le_f, ic_le_t, ic_lt_f, ic_lt_t, ic_eq_f, ic_eq_t, ic_im, ic_mi, ic_mm_t, ic_mm_f, ic_mlt, ic_mle, ic_ilem, ic_iltm, ic_mmle_t, ic_mmle_f, pu_add, pu_mul, pu_in, pu_ck, pu_let, pu_cl, pu_cpok, pu_inr, Option.bind_some, ite_true, ite_false, pu_dm, pu_dv, pu_sub, nt_dm, if_true, if_false]))
    rw [hx, h48, if_neg q, if_pos p]
  rcases anyI d with g | ⟨F, hF, rfl⟩
  · -- a place below 0
    rw [li_0] at g
    have g2 : (d < nI 0) = True := eq_true g
    have hq : ∀ (f : qaM × Int32 × Int32 → Option ((qaM × Int32 × Int32) ⊕ (Int32 × qaM))) (r : Int32 × qaM) (s0 : qaM × Int32 × Int32), f s0 = some (.inr r) → qa_lp f qa_F s0 = some r := by
      intro f r s0 hf
      show qa_lp f (1999 + 1) s0 = some r
      rw [qa_lp, hf]
    rcases Nat.eq_zero_or_pos n with hn0 | hn0
    · subst hn0
      refine ⟨nI 0, m, m, ?_, ?_, Rel.mk hD⟩
      · rw [e6, lp_X6_buyBy_67]
        refine hq _ _ _ ?_
        show b_X6_buyBy_67 m (nI s) d (nI 0) (nI 0) (nI 0) = _
        unfold b_X6_buyBy_67
        rw [ic_le_t (by omega) (by omega)]
        rfl
      · rw [e7 m rfl, lp_X7_buyBy_64]
        refine hq _ _ _ ?_
        show b_X7_buyBy_64 m (nI s) d (nI 0) (nI 0) (nI 0) = _
        unfold b_X7_buyBy_64
        rw [ic_le_t (by omega) (by omega)]
        rfl
    · have h0 : d + nI 2 * nI 0 = d := by
        have : nI 2 * nI 0 = 0 := by decide
        rw [this, Int32.add_zero]
      have hp : f_X3_isPlace m (nI s) d = some (nI 0) := by
        ((try simp only [f_X3_isPlace, f_X6_isSheet, g2, li_0, li_1, li_2, li_3, li_4, li_5, li_6, li_7, li_8, li_9, li_10, li_11, li_12, li_13, li_14, li_15, li_16, li_17, li_18, li_19, li_20, li_30, li_31, li_32, li_33, li_40, li_41, li_42, li_43, li_45, li_48, li_56, li_57, li_59, li_60, li_61, li_64, li_91, li_97, li_99, li_100, li_122, li_150, li_160, li_200, li_201, li_255, li_300, li_303, li_304, li_305, li_306, li_312, li_400, li_500, li_999, li_1003, li_3099, li_99999, li_100000, li_1000000, li_65, li_23, li_neg]); (try simp (disch := omega) only [f_X3_isPlace, f_X6_isSheet, g2, ic_le_f, ic_le_t, ic_lt_f, ic_lt_t, ic_eq_f, ic_eq_t, ic_im, ic_mi, ic_mm_t, ic_mm_f, ic_mlt, ic_mle, ic_ilem, ic_iltm, ic_mmle_t, ic_mmle_f, pu_add, pu_mul, pu_in, pu_ck, pu_let, pu_cl, pu_cpok, pu_inr, Option.bind_some, ite_true, ite_false, pu_dm, pu_dv, pu_sub, nt_dm, if_true, if_false]))
      refine ⟨nM 12, m, m, ?_, ?_, Rel.mk hD⟩
      · rw [e6, lp_X6_buyBy_67]
        refine hq _ _ _ ?_
        show b_X6_buyBy_67 m (nI s) d (nI n) (nI 0) (nI 0) = _
        unfold b_X6_buyBy_67
        simp only [li_0, li_1, li_2, li_3, li_4, li_5, li_6, li_7, li_8, li_9, li_10, li_11, li_12, li_13, li_14, li_15, li_16, li_17, li_18, li_19, li_20, li_30, li_31, li_32, li_33, li_40, li_41, li_42, li_43, li_45, li_48, li_56, li_57, li_59, li_60, li_61, li_64, li_91, li_97, li_99, li_100, li_122, li_150, li_160, li_200, li_201, li_255, li_300, li_303, li_304, li_305, li_306, li_312, li_400, li_500, li_999, li_1003, li_3099, li_99999, li_100000, li_1000000, li_65, li_23, li_neg]
        rw [ic_le_f hn0 (by omega), h0, pu_let, hp, Option.bind_some, if_pos rfl]
        rfl
      · rw [e7 m rfl, lp_X7_buyBy_64]
        refine hq _ _ _ ?_
        show b_X7_buyBy_64 m (nI s) d (nI n) (nI 0) (nI 0) = _
        unfold b_X7_buyBy_64
        simp only [li_0, li_1, li_2, li_3, li_4, li_5, li_6, li_7, li_8, li_9, li_10, li_11, li_12, li_13, li_14, li_15, li_16, li_17, li_18, li_19, li_20, li_30, li_31, li_32, li_33, li_40, li_41, li_42, li_43, li_45, li_48, li_56, li_57, li_59, li_60, li_61, li_64, li_91, li_97, li_99, li_100, li_122, li_150, li_160, li_200, li_201, li_255, li_300, li_303, li_304, li_305, li_306, li_312, li_400, li_500, li_999, li_1003, li_3099, li_99999, li_100000, li_1000000, li_65, li_23, li_neg]
        rw [ic_le_f hn0 (by omega), h0, pu_let, if_pos g]
        rfl
  obtain ⟨G, hG⟩ : ∃ G : Nat → Int32, ∀ p, G p = m 35 (40 * s + p) := ⟨_, fun _ => rfl⟩
  obtain ⟨E, hE⟩ : ∃ E, E = (z - F) / 2 := ⟨_, rfl⟩
  obtain ⟨ans, hans⟩ : ∃ ans : Int32, ans = if E < n then nM 12 else nI (cbF G F H n) := ⟨_, rfl⟩
  obtain ⟨K, hK⟩ : ∃ K, K = hbF G F H (if E < n then E else n) := ⟨_, rfl⟩
  obtain ⟨r1, a1, a2, a3, a4⟩ := lp_at (f := fun q : qaM × Int32 × Int32 => b_X6_buyBy_67 q.1 (nI s) (nI F) (nI n) q.2.1 q.2.2) (fun j q => q.2 = (nI (cbF G F H j), nI j) ∧ j ≤ E ∧ CH q.1 8 (hbF G F H j) ∧ qF [9, 10, 11, 12] m q.1 ∨ (q.2 = (nI 0, nI 0) ∧ j = 0 ∧ q.1 = m)) (fun q => q.1 = ans ∧ CH q.2 8 K ∧ qF [9, 10, 11, 12] m q.2) n (s := (m, nI 0, nI 0)) (Or.inr ⟨rfl, rfl, rfl⟩) (by omega) (by
    rintro j ⟨x, k2⟩ hj hI
    have hI2 : k2 = (nI (cbF G F H j), nI j) ∧ j ≤ E ∧ CH x 8 (hbF G F H j) ∧ qF [9, 10, 11, 12] m x := by
      rcases hI with hI | ⟨i1, i2, i3⟩
      · exact hI
      · replace i1 : k2 = (nI 0, nI 0) := i1
        replace i3 : x = m := i3
        subst i1 i2 i3
        exact ⟨rfl, Nat.zero_le _, c, qF.rf _ _⟩
    obtain ⟨rfl, hjE, cx, hf⟩ := hI2
    show (∃ s', b_X6_buyBy_67 x (nI s) (nI F) (nI n) (nI (cbF G F H j)) (nI j) = some (.inl s') ∧ _) ∨ (∃ q, b_X6_buyBy_67 x (nI s) (nI F) (nI n) (nI (cbF G F H j)) (nI j) = some (.inr q) ∧ _)
    have x34 : x 34 s = nI z := by rw [hf 34 (by decide), h34]
    unfold b_X6_buyBy_67
    rcases Nat.lt_or_ge j n with y | y
    · have hFj : F + 2 * j < 2 ^ 31 - 1 ∨ (j = 0 ∧ z ≤ F) := by omega
      rcases Nat.lt_or_ge j E with w | w
      · obtain ⟨p1, p2⟩ := kread (m := x) (s := s) (i := F + 2 * j) (by omega) x34 hz (by omega)
        obtain ⟨p3, p4⟩ := kread (m := x) (s := s) (i := F + 2 * j + 1) (by omega) x34 hz (by omega)
        have vx := (hbF_V (g := G) (F := F) v j).1
        obtain ⟨x2, g1, g2, g3⟩ := kbuyA (G (F + 2 * j)) (G (F + 2 * j + 1)) cx vx
        refine Or.inl ⟨(x2, nI (cbF G F H (j + 1)), nI (j + 1)), ?_, y, Or.inl ⟨rfl, by omega, by rw [hbF_s]; exact g2, hf.t2 g3 (fun _ z => z)⟩⟩
        simp only [li_0, li_1, li_2, li_3, li_4, li_5, li_6, li_7, li_8, li_9, li_10, li_11, li_12, li_13, li_14, li_15, li_16, li_17, li_18, li_19, li_20, li_30, li_31, li_32, li_33, li_40, li_41, li_42, li_43, li_45, li_48, li_56, li_57, li_59, li_60, li_61, li_64, li_91, li_97, li_99, li_100, li_122, li_150, li_160, li_200, li_201, li_255, li_300, li_303, li_304, li_305, li_306, li_312, li_400, li_500, li_999, li_1003, li_3099, li_99999, li_100000, li_1000000, li_65, li_23, li_neg]
        rw [ic_le_f y (by omega), pu_mul, pu_add, pu_let, p1, if_pos (by omega), Option.bind_some, if_neg n10, pu_add, p3, if_pos (by omega), Option.bind_some, if_neg n10, p2 (by omega), Option.bind_some, p4 (by omega), Option.bind_some, hf 35 (by decide), ← hG, ← Nat.add_assoc, ← Nat.add_assoc, Nat.add_assoc (40 * s) F (2 * j)] 
        rw [Nat.add_assoc (40 * s) (F + 2 * j) 1, ← hG, g1, Option.bind_some, cbF_s]
        by_cases u : buyA (hbF G F H j) (G (F + 2 * j)) (G (F + 2 * j + 1)) < nI 0
        · rw [if_pos u, if_pos u]
          ((try simp only [b_X6_buyBy_145, Nat.add_zero, li_0, li_1, li_2, li_3, li_4, li_5, li_6, li_7, li_8, li_9, li_10, li_11, li_12, li_13, li_14, li_15, li_16, li_17, li_18, li_19, li_20, li_30, li_31, li_32, li_33, li_40, li_41, li_42, li_43, li_45, li_48, li_56, li_57, li_59, li_60, li_61, li_64, li_91, li_97, li_99, li_100, li_122, li_150, li_160, li_200, li_201, li_255, li_300, li_303, li_304, li_305, li_306, li_312, li_400, li_500, li_999, li_1003, li_3099, li_99999, li_100000, li_1000000, li_65, li_23, li_neg]); (try simp (disch := omega) only [b_X6_buyBy_145, Nat.add_zero, ic_le_f, ic_le_t, ic_lt_f, ic_lt_t, ic_eq_f, ic_eq_t, ic_im, ic_mi, ic_mm_t, ic_mm_f, ic_mlt, ic_mle, ic_ilem, ic_iltm, ic_mmle_t, ic_mmle_f, pu_add, pu_mul, pu_in, pu_ck, pu_let, pu_cl, pu_cpok, pu_inr, Option.bind_some, ite_true, ite_false, pu_dm, pu_dv, pu_sub, nt_dm, if_true, if_false]))
        · rw [if_neg u, if_neg u]
          ((try simp only [b_X6_buyBy_145, li_0, li_1, li_2, li_3, li_4, li_5, li_6, li_7, li_8, li_9, li_10, li_11, li_12, li_13, li_14, li_15, li_16, li_17, li_18, li_19, li_20, li_30, li_31, li_32, li_33, li_40, li_41, li_42, li_43, li_45, li_48, li_56, li_57, li_59, li_60, li_61, li_64, li_91, li_97, li_99, li_100, li_122, li_150, li_160, li_200, li_201, li_255, li_300, li_303, li_304, li_305, li_306, li_312, li_400, li_500, li_999, li_1003, li_3099, li_99999, li_100000, li_1000000, li_65, li_23, li_neg]); (try simp (disch := omega) only [b_X6_buyBy_145, ic_le_f, ic_le_t, ic_lt_f, ic_lt_t, ic_eq_f, ic_eq_t, ic_im, ic_mi, ic_mm_t, ic_mm_f, ic_mlt, ic_mle, ic_ilem, ic_iltm, ic_mmle_t, ic_mmle_f, pu_add, pu_mul, pu_in, pu_ck, pu_let, pu_cl, pu_cpok, pu_inr, Option.bind_some, ite_true, ite_false, pu_dm, pu_dv, pu_sub, nt_dm, if_true, if_false]))
      · have hjE2 : j = E := by omega
        refine Or.inr ⟨(nM 12, x), ?_, ?_, ?_, hf⟩
        · simp only [li_0, li_1, li_2, li_3, li_4, li_5, li_6, li_7, li_8, li_9, li_10, li_11, li_12, li_13, li_14, li_15, li_16, li_17, li_18, li_19, li_20, li_30, li_31, li_32, li_33, li_40, li_41, li_42, li_43, li_45, li_48, li_56, li_57, li_59, li_60, li_61, li_64, li_91, li_97, li_99, li_100, li_122, li_150, li_160, li_200, li_201, li_255, li_300, li_303, li_304, li_305, li_306, li_312, li_400, li_500, li_999, li_1003, li_3099, li_99999, li_100000, li_1000000, li_65, li_23, li_neg]
          rw [ic_le_f y (by omega), pu_mul, pu_add, pu_let]
          rcases Nat.lt_or_ge (F + 2 * j) z with u | u
          · obtain ⟨p1, p2⟩ := kread (m := x) (s := s) (i := F + 2 * j) (by omega) x34 hz (by omega)
            obtain ⟨p3, p4⟩ := kread (m := x) (s := s) (i := F + 2 * j + 1) (by omega) x34 hz (by omega)
            rw [p1, if_pos u, Option.bind_some, if_neg n10, pu_add, p3, if_neg (by omega), Option.bind_some, if_pos rfl]
            rfl
          · obtain ⟨p1, p2⟩ := kread (m := x) (s := s) (i := F + 2 * j) (by omega) x34 hz (by omega)
            rw [p1, if_neg (by omega), Option.bind_some, if_pos rfl]
            rfl
        · show nM 12 = ans
          rw [hans, if_pos (by omega)]
        · show CH x 8 K
          rw [hK, if_pos (by omega), ← hjE2]
          exact cx
    · have hjn : j = n := by omega
      refine Or.inr ⟨(nI (cbF G F H j), x), ?_, ?_, ?_, hf⟩
      · rw [ic_le_t y (by omega)]
        rfl
      · show nI (cbF G F H j) = ans
        rw [hans, if_neg (by omega), hjn]
      · show CH x 8 K
        rw [hK, if_neg (by omega), ← hjn]
        exact cx)
  have r1m : MH r1.2 H := r.cl a4 (by decide)
  have s50 : ∀ p : Nat, 40 * s + p < 160 → r1.2 50 (40 * s + p) = G p := fun p hp => by
    rw [a4 50 (by decide), hG]
    exact sh.2 _ hp
  obtain ⟨r2, b1, b2, b3, b4, b5⟩ := lp_at (f := fun q : qaM × Int32 × Int32 => b_X7_buyBy_64 q.1 (nI s) (nI F) (nI n) q.2.1 q.2.2) (fun j q => q.2 = (nI (cbF G F H j), nI j) ∧ j ≤ E ∧ MH q.1 (hbF G F H j) ∧ qF [36, 37, 38, 39, 40] r1.2 q.1 ∧ o36l [0, 5] r1.2 q.1) (fun q => q.1 = ans ∧ MH q.2 K ∧ qF [36, 37, 38, 39, 40] r1.2 q.2 ∧ o36l [0, 5] r1.2 q.2) n (s := (r1.2, nI 0, nI 0)) ⟨rfl, Nat.zero_le _, r1m, qF.rf _ _, o36l.rf _ _⟩ (by omega) (by
    rintro j ⟨x, k2⟩ hj ⟨hk2, hjE, cx, hf, ho⟩
    have hk3 : k2 = (nI (cbF G F H j), nI j) := hk2
    subst hk3
    replace cx : MH x (hbF G F H j) := cx
    replace hf : qF [36, 37, 38, 39, 40] r1.2 x := hf
    replace ho : o36l [0, 5] r1.2 x := ho
    show (∃ s', b_X7_buyBy_64 x (nI s) (nI F) (nI n) (nI (cbF G F H j)) (nI j) = some (.inl s') ∧ _) ∨ (∃ q, b_X7_buyBy_64 x (nI s) (nI F) (nI n) (nI (cbF G F H j)) (nI j) = some (.inr q) ∧ _)
    have x49 : x 49 s = nI z := by rw [hf 49 (by decide), a4 49 (by decide), h49]
    unfold b_X7_buyBy_64
    rcases Nat.lt_or_ge j n with y | y
    · rcases Nat.lt_or_ge j E with w | w
      · have vx := (hbF_V (g := G) (F := F) v j).1
        obtain ⟨x2, g1, g2, g3, g4⟩ := r7buyA (G (F + 2 * j)) (G (F + 2 * j + 1)) cx vx
        refine Or.inl ⟨(x2, nI (cbF G F H (j + 1)), nI (j + 1)), ?_, y, rfl, by omega, by rw [hbF_s]; exact g2, hf.t2 g3 (fun _ z => z), ho.tr g4 (fun _ z => z) (fun _ z => z)⟩
        have w1 : x 50 (40 * s + (F + 2 * j)) = G (F + 2 * j) := by
          rw [hf 50 (by decide)]
          exact s50 _ (by omega)
        have w2 : x 50 (40 * s + (F + 2 * j) + 1) = G (F + 2 * j + 1) := by
          rw [hf 50 (by decide), Nat.add_assoc]
          exact s50 _ (by omega)
        simp only [li_0, li_1, li_2, li_3, li_4, li_5, li_6, li_7, li_8, li_9, li_10, li_11, li_12, li_13, li_14, li_15, li_16, li_17, li_18, li_19, li_20, li_30, li_31, li_32, li_33, li_40, li_41, li_42, li_43, li_45, li_48, li_56, li_57, li_59, li_60, li_61, li_64, li_91, li_97, li_99, li_100, li_122, li_150, li_160, li_200, li_201, li_255, li_300, li_303, li_304, li_305, li_306, li_312, li_400, li_500, li_999, li_1003, li_3099, li_99999, li_100000, li_1000000, li_65, li_23, li_neg]
        rw [ic_le_f y (by omega), pu_mul, pu_add, pu_let, if_neg (nI_nlt (Nat.zero_le _) (by omega)), ic_lt_f (by omega) (by omega), pu_in (by omega) (by omega), pu_ck, pu_cl (by omega), x49, pu_sub (by omega), ic_le_t (by omega) (by omega), pu_mul, pu_add, pu_let, pu_in (by omega) (by omega), pu_ck, pu_add, pu_in (by omega) (by omega), pu_ck, pu_cl (by omega), pu_cl (by omega), w1, w2, g1, Option.bind_some, cbF_s]
        by_cases u : buyA (hbF G F H j) (G (F + 2 * j)) (G (F + 2 * j + 1)) < nI 0
        · rw [if_pos u, if_pos u]
          ((try simp only [b_X7_buyBy_144, Nat.add_zero, li_0, li_1, li_2, li_3, li_4, li_5, li_6, li_7, li_8, li_9, li_10, li_11, li_12, li_13, li_14, li_15, li_16, li_17, li_18, li_19, li_20, li_30, li_31, li_32, li_33, li_40, li_41, li_42, li_43, li_45, li_48, li_56, li_57, li_59, li_60, li_61, li_64, li_91, li_97, li_99, li_100, li_122, li_150, li_160, li_200, li_201, li_255, li_300, li_303, li_304, li_305, li_306, li_312, li_400, li_500, li_999, li_1003, li_3099, li_99999, li_100000, li_1000000, li_65, li_23, li_neg]); (try simp (disch := omega) only [b_X7_buyBy_144, Nat.add_zero, ic_le_f, ic_le_t, ic_lt_f, ic_lt_t, ic_eq_f, ic_eq_t, ic_im, ic_mi, ic_mm_t, ic_mm_f, ic_mlt, ic_mle, ic_ilem, ic_iltm, ic_mmle_t, ic_mmle_f, pu_add, pu_mul, pu_in, pu_ck, pu_let, pu_cl, pu_cpok, pu_inr, Option.bind_some, ite_true, ite_false, pu_dm, pu_dv, pu_sub, nt_dm, if_true, if_false]))
        · rw [if_neg u, if_neg u]
          ((try simp only [b_X7_buyBy_144, li_0, li_1, li_2, li_3, li_4, li_5, li_6, li_7, li_8, li_9, li_10, li_11, li_12, li_13, li_14, li_15, li_16, li_17, li_18, li_19, li_20, li_30, li_31, li_32, li_33, li_40, li_41, li_42, li_43, li_45, li_48, li_56, li_57, li_59, li_60, li_61, li_64, li_91, li_97, li_99, li_100, li_122, li_150, li_160, li_200, li_201, li_255, li_300, li_303, li_304, li_305, li_306, li_312, li_400, li_500, li_999, li_1003, li_3099, li_99999, li_100000, li_1000000, li_65, li_23, li_neg]); (try simp (disch := omega) only [b_X7_buyBy_144, ic_le_f, ic_le_t, ic_lt_f, ic_lt_t, ic_eq_f, ic_eq_t, ic_im, ic_mi, ic_mm_t, ic_mm_f, ic_mlt, ic_mle, ic_ilem, ic_iltm, ic_mmle_t, ic_mmle_f, pu_add, pu_mul, pu_in, pu_ck, pu_let, pu_cl, pu_cpok, pu_inr, Option.bind_some, ite_true, ite_false, pu_dm, pu_dv, pu_sub, nt_dm, if_true, if_false]))
      · have hjE2 : j = E := by omega
        refine Or.inr ⟨(nM 12, x), ?_, ?_, ?_, hf, ho⟩
        · simp only [li_0, li_1, li_2, li_3, li_4, li_5, li_6, li_7, li_8, li_9, li_10, li_11, li_12, li_13, li_14, li_15, li_16, li_17, li_18, li_19, li_20, li_30, li_31, li_32, li_33, li_40, li_41, li_42, li_43, li_45, li_48, li_56, li_57, li_59, li_60, li_61, li_64, li_91, li_97, li_99, li_100, li_122, li_150, li_160, li_200, li_201, li_255, li_300, li_303, li_304, li_305, li_306, li_312, li_400, li_500, li_999, li_1003, li_3099, li_99999, li_100000, li_1000000, li_65, li_23, li_neg]
          rw [ic_le_f y (by omega), pu_mul, pu_add, pu_let, if_neg (nI_nlt (Nat.zero_le _) (by omega)), ic_lt_f (by omega) (by omega), pu_in (by omega) (by omega), pu_ck, pu_cl (by omega), x49]
          rcases Nat.lt_or_ge z 2 with u | u
          · rw [pu_subm u, ic_ilem (Or.inl (by omega)) (by omega) (by omega)]
            rfl
          · rw [pu_sub u, ic_le_f (by omega) (by omega)]
            rfl
        · show nM 12 = ans
          rw [hans, if_pos (by omega)]
        · show MH x K
          rw [hK, if_pos (by omega), ← hjE2]
          exact cx
    · have hjn : j = n := by omega
      refine Or.inr ⟨(nI (cbF G F H j), x), ?_, ?_, ?_, hf, ho⟩
      · rw [ic_le_t y (by omega)]
        rfl
      · show nI (cbF G F H j) = ans
        rw [hans, if_neg (by omega), hjn]
      · show MH x K
        rw [hK, if_neg (by omega), ← hjn]
        exact cx)
  have hKV := hbF_V (g := G) (F := F) v (if E < n then E else n)
  rw [← hK] at hKV
  obtain ⟨vB, nB, aB, wB, lB⟩ := hKV
  refine ⟨ans, r1.2, r2.2, by rw [e6, lp_X6_buyBy_67, a1, ← a2], by rw [e7 _ (a4 48 (by decide)), lp_X7_buyBy_64, b1, ← b2], ?_⟩
  exact Rel.mut hD ((a4.mo (by simp)).t2 b4 (by simp)) ((o36l.q (k := []) a4 (by decide)).tr b5 (by simp) (by simp)) (a3.rf b4 (by omega) (by simp)) b3 vB (by rw [lB]; exact hl) (by rw [wB]; exact hw) nB (fun i hi => by rw [aB i hi]; exact ⟨rfl, rfl⟩) (nt.F ((b4 8 (by decide)).trans (a4 8 (by decide))) wB)
