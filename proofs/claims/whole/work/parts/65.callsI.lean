/-! PURE: the calls (9): force -/
def HS.setL (H : HS) (l : Nat) : HS := (H.n, H.A, H.P, H.R, H.wk, l)
theorem qp_force : qaP_force Rel := by
  intro m a h
  obtain ⟨H, N, S, hD⟩ := h
  have ⟨c, r, v, hl, hw, t, _, _, _, nt⟩ := hD
  have hN6 := t.2.2.2.1
  have hno : (a < 0 ∨ ∃ k : Nat, N ≤ k ∧ k < 2 ^ 31 ∧ a = nI k) → ∃ x m1 m2, f_X6_force m a = some (x, m1) ∧ f_X7_force m1 a = some (x, m2) ∧ Rel m2 := by
    intro hb
    refine ⟨nM 2, m, m, ?_, ?_, Rel.mk hD⟩
    · unfold f_X6_force
      rw [t.1]
      rcases hb with q | ⟨k, k1, k2, rfl⟩
      · simp only [li_0, li_1, li_2, li_3, li_4, li_5, li_6, li_7, li_8, li_9, li_10, li_11, li_12, li_13, li_14, li_15, li_16, li_17, li_18, li_19, li_20, li_30, li_31, li_32, li_33, li_40, li_41, li_42, li_43, li_45, li_48, li_56, li_57, li_59, li_60, li_61, li_64, li_91, li_97, li_99, li_100, li_122, li_150, li_160, li_200, li_201, li_255, li_300, li_303, li_304, li_305, li_306, li_312, li_400, li_500, li_999, li_1003, li_3099, li_99999, li_100000, li_neg]
        rw [if_pos (show a < nI 0 by rw [← li_0]; exact q)]
      · ((try simp only [li_0, li_1, li_2, li_3, li_4, li_5, li_6, li_7, li_8, li_9, li_10, li_11, li_12, li_13, li_14, li_15, li_16, li_17, li_18, li_19, li_20, li_30, li_31, li_32, li_33, li_40, li_41, li_42, li_43, li_45, li_48, li_56, li_57, li_59, li_60, li_61, li_64, li_91, li_97, li_99, li_100, li_122, li_150, li_160, li_200, li_201, li_255, li_300, li_303, li_304, li_305, li_306, li_312, li_400, li_500, li_999, li_1003, li_3099, li_99999, li_100000, li_neg]); simp (disch := omega) only [ic_le_f, ic_le_t, ic_lt_f, ic_lt_t, ic_eq_f, ic_eq_t, ic_im, ic_mi, ic_mm_t, ic_mm_f, ic_mlt, ic_mle, ic_ilem, ic_iltm, ic_mmle_t, ic_mmle_f, pu_add, pu_mul, pu_in, pu_ck, pu_let, pu_cl, pu_cpok, pu_inr, Option.bind_some, ite_true, ite_false])
    · unfold f_X7_force
      rw [t.2.1]
      simp only [li_0, li_1, li_2, li_3, li_4, li_5, li_6, li_7, li_8, li_9, li_10, li_11, li_12, li_13, li_14, li_15, li_16, li_17, li_18, li_19, li_20, li_30, li_31, li_32, li_33, li_40, li_41, li_42, li_43, li_45, li_48, li_56, li_57, li_59, li_60, li_61, li_64, li_91, li_97, li_99, li_100, li_122, li_150, li_160, li_200, li_201, li_255, li_300, li_303, li_304, li_305, li_306, li_312, li_400, li_500, li_999, li_1003, li_3099, li_99999, li_100000, li_neg]
      rw [plI_m]
      rcases hb with q | ⟨k, k1, k2, rfl⟩
      · rw [r7in_n q (by omega), Option.bind_some, if_pos rfl]
      · rw [r7in_p (by omega) (by omega), if_neg (by omega), Option.bind_some, if_pos rfl]
  rcases anyI a with q | ⟨k, hk, rfl⟩
  · exact hno (Or.inl q)
  rcases Nat.lt_or_ge k N with q | q
  rotate_left
  · exact hno (Or.inr ⟨k, q, hk, rfl⟩)
  have f1 : qF [8, 36] m (qa_st (qa_st m 8 4 (nI k)) 36 13 (nI k)) := ((qF.rf _ m).stl (by simp)).stl (by simp)
  have o1 : o36l [13] m (qa_st (qa_st m 8 4 (nI k)) 36 13 (nI k)) := fun x hx => by
    have hx2 : x ≠ 13 := by simpa using hx
    rw [st_s, up_n hx2, st_n (by omega)]
  have h8 : qa_st (qa_st m 8 4 (nI k)) 36 13 (nI k) 8 = upd (m 8) 4 (nI k) := by
    rw [st_n (by omega), st_s]
  have v2 : HV (H.setL k) := ⟨v.1, v.2.1, v.2.2.1, v.2.2.2.1, v.2.2.2.2.1, v.2.2.2.2.2.1, v.rs.1, v.rs.2.1, v.rs.2.2.1, v.rs.2.2.2.1, show k < 6 by omega⟩
  refine ⟨nI H.lw, qa_st m 8 4 (nI k), qa_st (qa_st m 8 4 (nI k)) 36 13 (nI k), ?_, ?_, ?_⟩
  · unfold f_X6_force
    rw [t.1]
    ((try simp only [li_0, li_1, li_2, li_3, li_4, li_5, li_6, li_7, li_8, li_9, li_10, li_11, li_12, li_13, li_14, li_15, li_16, li_17, li_18, li_19, li_20, li_30, li_31, li_32, li_33, li_40, li_41, li_42, li_43, li_45, li_48, li_56, li_57, li_59, li_60, li_61, li_64, li_91, li_97, li_99, li_100, li_122, li_150, li_160, li_200, li_201, li_255, li_300, li_303, li_304, li_305, li_306, li_312, li_400, li_500, li_999, li_1003, li_3099, li_99999, li_100000, li_neg]); simp (disch := omega) only [ic_le_f, ic_le_t, ic_lt_f, ic_lt_t, ic_eq_f, ic_eq_t, ic_im, ic_mi, ic_mm_t, ic_mm_f, ic_mlt, ic_mle, ic_ilem, ic_iltm, ic_mmle_t, ic_mmle_f, pu_add, pu_mul, pu_in, pu_ck, pu_let, pu_cl, pu_cpok, pu_inr, Option.bind_some, ite_true, ite_false])
    rw [c.2.2.2.2]
  · unfold f_X7_force
    rw [st_n (show (36 : Nat) ≠ 8 by omega), t.2.1]
    simp only [li_0, li_1, li_2, li_3, li_4, li_5, li_6, li_7, li_8, li_9, li_10, li_11, li_12, li_13, li_14, li_15, li_16, li_17, li_18, li_19, li_20, li_30, li_31, li_32, li_33, li_40, li_41, li_42, li_43, li_45, li_48, li_56, li_57, li_59, li_60, li_61, li_64, li_91, li_97, li_99, li_100, li_122, li_150, li_160, li_200, li_201, li_255, li_300, li_303, li_304, li_305, li_306, li_312, li_400, li_500, li_999, li_1003, li_3099, li_99999, li_100000, li_neg]
    rw [plI_m, r7in_p (by omega) (by omega), if_pos q, Option.bind_some, if_neg (show ¬ nI 1 = nI 0 by decide), pu_let, pu_let, r.2.2.2.2.2]
  · refine Rel.mut (H2 := H.setL k) hD (f1.mo (by simp)) (o1.tr (o36l.rf [] _) (by simp) (by simp)) ?_ ?_ v2 q hw (Nat.le_refl _) (fun _ _ => ⟨rfl, rfl⟩) ?_
    · refine ⟨c.1.F f1 (by decide) (by decide), c.2.1.F f1 (by decide) (by decide), ?_, ?_, ?_⟩
      · rw [f1 13 (by decide)]
        exact c.2.2.1
      · rw [h8, up_n (by omega)]
        exact c.2.2.2.1
      · rw [h8, up_s]
        rfl
    · refine ⟨r.1.F f1 (by decide) (by decide) (by decide), ?_, ?_, ?_, ?_, ?_⟩
      · have h2 := r.2.1
        unfold RP at h2 ⊢
        rw [o1 5 (by decide), f1 40 (by decide)]
        exact h2
      · rw [f1 41 (by decide)]
        exact r.2.2.1
      · rw [o1 0 (by decide)]
        exact r.2.2.2.1
      · rw [o1 7 (by decide)]
        exact r.2.2.2.2.1
      · rw [st_s, up_s]
        rfl
    · obtain ⟨tf, ou, fi, li, ⟨t5, t6, t7, t8⟩, n1, n2⟩ := nt
      refine ⟨tf, ou, fi, li, ⟨?_, ?_, ?_, ?_⟩, n1, n2⟩
      · rw [h8, up_n (by omega)]
        exact t5
      · rw [h8, up_n (by omega)]
        exact t6
      · rw [h8, up_n (by omega)]
        exact t7
      · rw [h8, up_n (by omega)]
        exact t8
