/-! PURE: the call feed -/
theorem byte6 {m : qaM} {x : Int32} : (∃ k : Nat, k ≤ 255 ∧ x = nI k ∧ f_X6_isByte m x = some (nI 1) ∧ ∀ m2 : qaM, f_X7_isByte m2 x = some (nI 1)) ∨ (f_X6_isByte m x = some (nI 0) ∧ ∀ m2 : qaM, f_X7_isByte m2 x = some (nI 0)) := by
  rcases upTo 255 256 rfl (by omega) x with ⟨k, hk, rfl⟩ | hx
  · refine Or.inl ⟨k, hk, rfl, ?_, fun m2 => ?_⟩
    · unfold f_X6_isByte
      simp only [li_0, li_1, li_2, li_3, li_4, li_5, li_6, li_7, li_8, li_9, li_10, li_11, li_12, li_13, li_14, li_15, li_16, li_17, li_18, li_19, li_20, li_30, li_31, li_32, li_33, li_40, li_41, li_42, li_43, li_45, li_48, li_56, li_57, li_59, li_60, li_61, li_64, li_91, li_97, li_99, li_100, li_122, li_150, li_160, li_200, li_201, li_255, li_300, li_303, li_304, li_305, li_306, li_312, li_400, li_500, li_999, li_1003, li_3099, li_99999, li_100000, li_1000000, li_65, li_23, li_neg]
      rw [if_neg (nI_nlt (Nat.zero_le _) (by omega)), ic_lt_f hk (by omega)]
    · unfold f_X7_isByte
      simp only [li_0, li_1, li_2, li_3, li_4, li_5, li_6, li_7, li_8, li_9, li_10, li_11, li_12, li_13, li_14, li_15, li_16, li_17, li_18, li_19, li_20, li_30, li_31, li_32, li_33, li_40, li_41, li_42, li_43, li_45, li_48, li_56, li_57, li_59, li_60, li_61, li_64, li_91, li_97, li_99, li_100, li_122, li_150, li_160, li_200, li_201, li_255, li_300, li_303, li_304, li_305, li_306, li_312, li_400, li_500, li_999, li_1003, li_3099, li_99999, li_100000, li_1000000, li_65, li_23, li_neg]
      rw [in7_ok hk (by omega), Option.bind_some, qa_bl1, pu_ck]
  · refine Or.inr ⟨?_, fun m2 => ?_⟩
    · rcases hx with ⟨h1, h2, h3, h4, h5, h6⟩ | ⟨h1, h2, h3, h4, h5, h6⟩
      all_goals ((try simp only [f_X6_isByte, h1, h2, h3, h4, h5, h6, li_0, li_1, li_2, li_3, li_4, li_5, li_6, li_7, li_8, li_9, li_10, li_11, li_12, li_13, li_14, li_15, li_16, li_17, li_18, li_19, li_20, li_30, li_31, li_32, li_33, li_40, li_41, li_42, li_43, li_45, li_48, li_56, li_57, li_59, li_60, li_61, li_64, li_91, li_97, li_99, li_100, li_122, li_150, li_160, li_200, li_201, li_255, li_300, li_303, li_304, li_305, li_306, li_312, li_400, li_500, li_999, li_1003, li_3099, li_99999, li_100000, li_1000000, li_65, li_23, li_neg]); (try simp (disch := omega) only [f_X6_isByte, h1, h2, h3, h4, h5, h6, ic_le_f, ic_le_t, ic_lt_f, ic_lt_t, ic_eq_f, ic_eq_t, ic_im, ic_mi, ic_mm_t, ic_mm_f, ic_mlt, ic_mle, ic_ilem, ic_iltm, ic_mmle_t, ic_mmle_f, pu_add, pu_mul, pu_in, pu_ck, pu_let, pu_cl, pu_cpok, pu_inr, Option.bind_some, ite_true, ite_false, pu_dm, pu_dv, pu_sub, nt_dm, if_true, if_false]))
    · unfold f_X7_isByte
      simp only [li_0, li_1, li_2, li_3, li_4, li_5, li_6, li_7, li_8, li_9, li_10, li_11, li_12, li_13, li_14, li_15, li_16, li_17, li_18, li_19, li_20, li_30, li_31, li_32, li_33, li_40, li_41, li_42, li_43, li_45, li_48, li_56, li_57, li_59, li_60, li_61, li_64, li_91, li_97, li_99, li_100, li_122, li_150, li_160, li_200, li_201, li_255, li_300, li_303, li_304, li_305, li_306, li_312, li_400, li_500, li_999, li_1003, li_3099, li_99999, li_100000, li_1000000, li_65, li_23, li_neg]
      rw [hx.in7, Option.bind_some, qa_bl0, pu_ck]
/-- bytes appended, class and reference -/
def KF (m x : qaM) (B : Nat → Nat) (L j : Nat) : Prop := qF [6, 7] m x ∧ x 6 0 = nI (L + j) ∧ ∀ k : Nat, k < L + j → x 7 k = nI (B k)
def RF (m x : qaM) (B : Nat → Nat) (L j : Nat) : Prop := qF [36, 42] m x ∧ o36l [9] m x ∧ x 36 9 = nI (L + j) ∧ ∀ k : Nat, k < L + j → x 42 k = nI (B k)
theorem KF.add {m x : qaM} {B : Nat → Nat} {L j : Nat} (h : KF m x B L j) (hL : L + j < 160) : ∃ x2, f_X4_adds x (nI (B (L + j))) = some x2 ∧ KF m x2 B L (j + 1) := by
  obtain ⟨h1, h2, h3⟩ := h
  have g : (qa_st x 7 (L + j) (nI (B (L + j)))) 6 0 = nI (L + j) := by rw [st_n (by omega), h2]
  refine ⟨qa_st (qa_st x 7 (L + j) (nI (B (L + j)))) 6 0 (nI (L + j + 1)), ?_, (h1.stl (by simp)).stl (by simp), ?_, fun k hk => ?_⟩
  · unfold f_X4_adds
    simp only [li_0, li_1, li_2, li_3, li_4, li_5, li_6, li_7, li_8, li_9, li_10, li_11, li_12, li_13, li_14, li_15, li_16, li_17, li_18, li_19, li_20, li_30, li_31, li_32, li_33, li_40, li_41, li_42, li_43, li_45, li_48, li_56, li_57, li_59, li_60, li_61, li_64, li_91, li_97, li_99, li_100, li_122, li_150, li_160, li_200, li_201, li_255, li_300, li_303, li_304, li_305, li_306, li_312, li_400, li_500, li_999, li_1003, li_3099, li_99999, li_100000, li_1000000, li_65, li_23, li_neg]
    rw [h2, if_neg (nI_nlt (Nat.zero_le _) (by omega)), ic_le_f hL (by omega), pu_in hL (by omega), pu_ck, pu_cl (by omega), pu_let, g, pu_add, pu_let]
  · rw [st_s, up_s]
    rfl
  · rw [st_n (by omega), st_s]
    by_cases z : k = L + j
    · rw [z, up_s]
    · rw [up_n z]
      exact h3 k (by omega)
theorem RF.add {m x : qaM} {B : Nat → Nat} {L j : Nat} (h : RF m x B L j) (hL : L + j < 160) (a1 a2 a3 a4 a5 a6 : Int32) : ∃ x2, b_X7_feed_125 x a1 a2 a3 a4 a5 a6 (nI j) (nI (L + j)) (nI (B (L + j))) = some (.inl (x2, nI (j + 1))) ∧ RF m x2 B L (j + 1) := by
  obtain ⟨h1, h2, h3, h4⟩ := h
  have g : (qa_st x 42 (L + j) (nI (B (L + j)))) 36 9 = nI (L + j) := by rw [st_n (by omega), h3]
  refine ⟨qa_st (qa_st x 42 (L + j) (nI (B (L + j)))) 36 9 (nI (L + j + 1)), ?_, (h1.stl (by simp)).stl (by simp), ?_, ?_, fun k hk => ?_⟩
  · unfold b_X7_feed_125
    simp only [li_0, li_1, li_2, li_3, li_4, li_5, li_6, li_7, li_8, li_9, li_10, li_11, li_12, li_13, li_14, li_15, li_16, li_17, li_18, li_19, li_20, li_30, li_31, li_32, li_33, li_40, li_41, li_42, li_43, li_45, li_48, li_56, li_57, li_59, li_60, li_61, li_64, li_91, li_97, li_99, li_100, li_122, li_150, li_160, li_200, li_201, li_255, li_300, li_303, li_304, li_305, li_306, li_312, li_400, li_500, li_999, li_1003, li_3099, li_99999, li_100000, li_1000000, li_65, li_23, li_neg]
    rw [pu_in hL (by omega), pu_ck, pu_cl (by omega), pu_let, g, pu_add, pu_let, pu_add, pu_let]
  · intro k hk
    have hk2 : k ≠ 9 := by simpa using hk
    rw [st_s, up_n hk2, st_n (by omega)]
    exact h2 k hk
  · rw [st_s, up_s]
    rfl
  · rw [st_n (by omega), st_s]
    by_cases z : k = L + j
    · rw [z, up_s]
    · rw [up_n z]
      exact h4 k (by omega)
