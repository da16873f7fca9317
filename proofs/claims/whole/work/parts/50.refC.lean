/-! PURE: the reference's house, its week -/
theorem r7cbS {m : qaM} {i : Nat} {H : HS} (c : MH m H) (v : HV H) (hi : i < H.n) : ∃ m2, b_X7_comesBack_2 m (nI i) = some (.inl (m2, nI (i + 1))) ∧ MH m2 (cbS i H) ∧ qF [36, 39, 40] m m2 ∧ o36 5 m m2 := by
  have h8 := v.n8
  have a3 := (v.av i).2.2.2.2.2.2.1
  have a7 := (v.av i).2.2.2.2.2.2.2
  have r5 : m 39 (6 * i + 4 + 1) = nI (H.A i 7) := r7row c hi (k := 5) (by omega) (by omega)
  unfold b_X7_comesBack_2 cbS
  rw [c.2.2.2.1]
  by_cases q7 : H.A i 7 = 1
  · rw [if_pos q7]
    refine ⟨m, ?_, c, qF.rf _ _, o36.rf _ _⟩
    ((try simp only [li_0, li_1, li_2, li_3, li_4, li_5, li_6, li_7, li_8, li_9, li_10, li_11, li_12, li_13, li_14, li_15, li_16, li_17, li_18, li_19, li_20, li_30, li_31, li_32, li_33, li_40, li_41, li_42, li_43, li_45, li_48, li_56, li_57, li_59, li_60, li_61, li_64, li_91, li_97, li_99, li_100, li_122, li_150, li_160, li_200, li_201, li_255, li_300, li_303, li_304, li_305, li_306, li_312, li_400, li_500, li_999, li_1003, li_3099, li_99999, li_100000, li_neg]); simp (disch := omega) only [ic_le_f, ic_le_t, ic_lt_f, ic_lt_t, ic_eq_f, ic_eq_t, ic_im, ic_mi, ic_mm_t, ic_mm_f, ic_mlt, ic_mle, ic_ilem, ic_iltm, ic_mmle_t, ic_mmle_f, pu_add, pu_mul, pu_in, pu_ck, pu_let, pu_cl, pu_cpok, pu_inr, Option.bind_some, ite_true, ite_false])
    by_cases q : m 39 (6 * i + 4) ≤ nI 0
    · rw [if_pos q]
      ((try simp only [b_X7_comesBack_61, li_0, li_1, li_2, li_3, li_4, li_5, li_6, li_7, li_8, li_9, li_10, li_11, li_12, li_13, li_14, li_15, li_16, li_17, li_18, li_19, li_20, li_30, li_31, li_32, li_33, li_40, li_41, li_42, li_43, li_45, li_48, li_56, li_57, li_59, li_60, li_61, li_64, li_91, li_97, li_99, li_100, li_122, li_150, li_160, li_200, li_201, li_255, li_300, li_303, li_304, li_305, li_306, li_312, li_400, li_500, li_999, li_1003, li_3099, li_99999, li_100000, li_neg]); simp (disch := omega) only [b_X7_comesBack_61, ic_le_f, ic_le_t, ic_lt_f, ic_lt_t, ic_eq_f, ic_eq_t, ic_im, ic_mi, ic_mm_t, ic_mm_f, ic_mlt, ic_mle, ic_ilem, ic_iltm, ic_mmle_t, ic_mmle_f, pu_add, pu_mul, pu_in, pu_ck, pu_let, pu_cl, pu_cpok, pu_inr, Option.bind_some, ite_true, ite_false])
    · rw [if_neg q, r5, q7]
      ((try simp only [b_X7_comesBack_61, li_0, li_1, li_2, li_3, li_4, li_5, li_6, li_7, li_8, li_9, li_10, li_11, li_12, li_13, li_14, li_15, li_16, li_17, li_18, li_19, li_20, li_30, li_31, li_32, li_33, li_40, li_41, li_42, li_43, li_45, li_48, li_56, li_57, li_59, li_60, li_61, li_64, li_91, li_97, li_99, li_100, li_122, li_150, li_160, li_200, li_201, li_255, li_300, li_303, li_304, li_305, li_306, li_312, li_400, li_500, li_999, li_1003, li_3099, li_99999, li_100000, li_neg]); simp (disch := omega) only [b_X7_comesBack_61, ic_le_f, ic_le_t, ic_lt_f, ic_lt_t, ic_eq_f, ic_eq_t, ic_im, ic_mi, ic_mm_t, ic_mm_f, ic_mlt, ic_mle, ic_ilem, ic_iltm, ic_mmle_t, ic_mmle_f, pu_add, pu_mul, pu_in, pu_ck, pu_let, pu_cl, pu_cpok, pu_inr, Option.bind_some, ite_true, ite_false])
  rw [if_neg q7]
  have r4 : m 39 (6 * i + 4) = nI (H.A i 6) := r7row c hi (k := 4) (by omega) (fun _ => by omega)
  by_cases q6 : H.A i 6 = 0
  · rw [if_pos q6]
    refine ⟨m, ?_, c, qF.rf _ _, o36.rf _ _⟩
    ((try simp only [li_0, li_1, li_2, li_3, li_4, li_5, li_6, li_7, li_8, li_9, li_10, li_11, li_12, li_13, li_14, li_15, li_16, li_17, li_18, li_19, li_20, li_30, li_31, li_32, li_33, li_40, li_41, li_42, li_43, li_45, li_48, li_56, li_57, li_59, li_60, li_61, li_64, li_91, li_97, li_99, li_100, li_122, li_150, li_160, li_200, li_201, li_255, li_300, li_303, li_304, li_305, li_306, li_312, li_400, li_500, li_999, li_1003, li_3099, li_99999, li_100000, li_neg]); simp (disch := omega) only [ic_le_f, ic_le_t, ic_lt_f, ic_lt_t, ic_eq_f, ic_eq_t, ic_im, ic_mi, ic_mm_t, ic_mm_f, ic_mlt, ic_mle, ic_ilem, ic_iltm, ic_mmle_t, ic_mmle_f, pu_add, pu_mul, pu_in, pu_ck, pu_let, pu_cl, pu_cpok, pu_inr, Option.bind_some, ite_true, ite_false])
    rw [r4, q6]
    ((try simp only [b_X7_comesBack_61, li_0, li_1, li_2, li_3, li_4, li_5, li_6, li_7, li_8, li_9, li_10, li_11, li_12, li_13, li_14, li_15, li_16, li_17, li_18, li_19, li_20, li_30, li_31, li_32, li_33, li_40, li_41, li_42, li_43, li_45, li_48, li_56, li_57, li_59, li_60, li_61, li_64, li_91, li_97, li_99, li_100, li_122, li_150, li_160, li_200, li_201, li_255, li_300, li_303, li_304, li_305, li_306, li_312, li_400, li_500, li_999, li_1003, li_3099, li_99999, li_100000, li_neg]); simp (disch := omega) only [b_X7_comesBack_61, ic_le_f, ic_le_t, ic_lt_f, ic_lt_t, ic_eq_f, ic_eq_t, ic_im, ic_mi, ic_mm_t, ic_mm_f, ic_mlt, ic_mle, ic_ilem, ic_iltm, ic_mmle_t, ic_mmle_f, pu_add, pu_mul, pu_in, pu_ck, pu_let, pu_cl, pu_cpok, pu_inr, Option.bind_some, ite_true, ite_false])
  rw [if_neg q6]
  have hp : i ∉ H.P := fun q => q6 (v.fr i q).1
  have hl := v.lenN hi hp
  have c2 : MH (qa_st m 39 (6 * i + 4) (nI (H.A i 6 - 1))) (H.setA i (aU (H.A i) 6 (H.A i 6 - 1))) := r7set c (k := 4) (by omega) (by omega)
  by_cases q61 : H.A i 6 = 1
  · rw [if_pos q61]
    rw [q61] at c2
    obtain ⟨m3, g1, g2, g3, g4⟩ := r7lays c2 (show i < 8 by omega) (show H.P.length < 8 by omega) v.i8 v.rs.2.2.2.1
    refine ⟨m3, ?_, g2, ((qF.st _ _ _ _).mo (by simp)).t2 g3 (by simp), (o36.q (qF.st _ _ _ _) (by simp)).tr g4⟩
    ((try simp only [li_0, li_1, li_2, li_3, li_4, li_5, li_6, li_7, li_8, li_9, li_10, li_11, li_12, li_13, li_14, li_15, li_16, li_17, li_18, li_19, li_20, li_30, li_31, li_32, li_33, li_40, li_41, li_42, li_43, li_45, li_48, li_56, li_57, li_59, li_60, li_61, li_64, li_91, li_97, li_99, li_100, li_122, li_150, li_160, li_200, li_201, li_255, li_300, li_303, li_304, li_305, li_306, li_312, li_400, li_500, li_999, li_1003, li_3099, li_99999, li_100000, li_neg]); simp (disch := omega) only [ic_le_f, ic_le_t, ic_lt_f, ic_lt_t, ic_eq_f, ic_eq_t, ic_im, ic_mi, ic_mm_t, ic_mm_f, ic_mlt, ic_mle, ic_ilem, ic_iltm, ic_mmle_t, ic_mmle_f, pu_add, pu_mul, pu_in, pu_ck, pu_let, pu_cl, pu_cpok, pu_inr, Option.bind_some, ite_true, ite_false])
    rw [r4, r5, q61]
    ((try simp only [li_0, li_1, li_2, li_3, li_4, li_5, li_6, li_7, li_8, li_9, li_10, li_11, li_12, li_13, li_14, li_15, li_16, li_17, li_18, li_19, li_20, li_30, li_31, li_32, li_33, li_40, li_41, li_42, li_43, li_45, li_48, li_56, li_57, li_59, li_60, li_61, li_64, li_91, li_97, li_99, li_100, li_122, li_150, li_160, li_200, li_201, li_255, li_300, li_303, li_304, li_305, li_306, li_312, li_400, li_500, li_999, li_1003, li_3099, li_99999, li_100000, li_neg]); simp (disch := omega) only [ic_le_f, ic_le_t, ic_lt_f, ic_lt_t, ic_eq_f, ic_eq_t, ic_im, ic_mi, ic_mm_t, ic_mm_f, ic_mlt, ic_mle, ic_ilem, ic_iltm, ic_mmle_t, ic_mmle_f, pu_add, pu_mul, pu_in, pu_ck, pu_let, pu_cl, pu_cpok, pu_inr, Option.bind_some, ite_true, ite_false])
    rw [pu_sub (by omega), st_s, up_s]
    ((try simp only [li_0, li_1, li_2, li_3, li_4, li_5, li_6, li_7, li_8, li_9, li_10, li_11, li_12, li_13, li_14, li_15, li_16, li_17, li_18, li_19, li_20, li_30, li_31, li_32, li_33, li_40, li_41, li_42, li_43, li_45, li_48, li_56, li_57, li_59, li_60, li_61, li_64, li_91, li_97, li_99, li_100, li_122, li_150, li_160, li_200, li_201, li_255, li_300, li_303, li_304, li_305, li_306, li_312, li_400, li_500, li_999, li_1003, li_3099, li_99999, li_100000, li_neg]); simp (disch := omega) only [ic_le_f, ic_le_t, ic_lt_f, ic_lt_t, ic_eq_f, ic_eq_t, ic_im, ic_mi, ic_mm_t, ic_mm_f, ic_mlt, ic_mle, ic_ilem, ic_iltm, ic_mmle_t, ic_mmle_f, pu_add, pu_mul, pu_in, pu_ck, pu_let, pu_cl, pu_cpok, pu_inr, Option.bind_some, ite_true, ite_false])
    rw [g1]
    ((try simp only [b_X7_comesBack_61, li_0, li_1, li_2, li_3, li_4, li_5, li_6, li_7, li_8, li_9, li_10, li_11, li_12, li_13, li_14, li_15, li_16, li_17, li_18, li_19, li_20, li_30, li_31, li_32, li_33, li_40, li_41, li_42, li_43, li_45, li_48, li_56, li_57, li_59, li_60, li_61, li_64, li_91, li_97, li_99, li_100, li_122, li_150, li_160, li_200, li_201, li_255, li_300, li_303, li_304, li_305, li_306, li_312, li_400, li_500, li_999, li_1003, li_3099, li_99999, li_100000, li_neg]); simp (disch := omega) only [b_X7_comesBack_61, ic_le_f, ic_le_t, ic_lt_f, ic_lt_t, ic_eq_f, ic_eq_t, ic_im, ic_mi, ic_mm_t, ic_mm_f, ic_mlt, ic_mle, ic_ilem, ic_iltm, ic_mmle_t, ic_mmle_f, pu_add, pu_mul, pu_in, pu_ck, pu_let, pu_cl, pu_cpok, pu_inr, Option.bind_some, ite_true, ite_false])
  · rw [if_neg q61]
    refine ⟨_, ?_, c2, (qF.st _ _ _ _).mo (by simp), o36.q (qF.st _ _ _ _) (by simp)⟩
    ((try simp only [li_0, li_1, li_2, li_3, li_4, li_5, li_6, li_7, li_8, li_9, li_10, li_11, li_12, li_13, li_14, li_15, li_16, li_17, li_18, li_19, li_20, li_30, li_31, li_32, li_33, li_40, li_41, li_42, li_43, li_45, li_48, li_56, li_57, li_59, li_60, li_61, li_64, li_91, li_97, li_99, li_100, li_122, li_150, li_160, li_200, li_201, li_255, li_300, li_303, li_304, li_305, li_306, li_312, li_400, li_500, li_999, li_1003, li_3099, li_99999, li_100000, li_neg]); simp (disch := omega) only [ic_le_f, ic_le_t, ic_lt_f, ic_lt_t, ic_eq_f, ic_eq_t, ic_im, ic_mi, ic_mm_t, ic_mm_f, ic_mlt, ic_mle, ic_ilem, ic_iltm, ic_mmle_t, ic_mmle_f, pu_add, pu_mul, pu_in, pu_ck, pu_let, pu_cl, pu_cpok, pu_inr, Option.bind_some, ite_true, ite_false])
    rw [r4, r5]
    ((try simp only [li_0, li_1, li_2, li_3, li_4, li_5, li_6, li_7, li_8, li_9, li_10, li_11, li_12, li_13, li_14, li_15, li_16, li_17, li_18, li_19, li_20, li_30, li_31, li_32, li_33, li_40, li_41, li_42, li_43, li_45, li_48, li_56, li_57, li_59, li_60, li_61, li_64, li_91, li_97, li_99, li_100, li_122, li_150, li_160, li_200, li_201, li_255, li_300, li_303, li_304, li_305, li_306, li_312, li_400, li_500, li_999, li_1003, li_3099, li_99999, li_100000, li_neg]); simp (disch := omega) only [ic_le_f, ic_le_t, ic_lt_f, ic_lt_t, ic_eq_f, ic_eq_t, ic_im, ic_mi, ic_mm_t, ic_mm_f, ic_mlt, ic_mle, ic_ilem, ic_iltm, ic_mmle_t, ic_mmle_f, pu_add, pu_mul, pu_in, pu_ck, pu_let, pu_cl, pu_cpok, pu_inr, Option.bind_some, ite_true, ite_false])
    rw [pu_sub (by omega), st_s, up_s]
    ((try simp only [b_X7_comesBack_61, li_0, li_1, li_2, li_3, li_4, li_5, li_6, li_7, li_8, li_9, li_10, li_11, li_12, li_13, li_14, li_15, li_16, li_17, li_18, li_19, li_20, li_30, li_31, li_32, li_33, li_40, li_41, li_42, li_43, li_45, li_48, li_56, li_57, li_59, li_60, li_61, li_64, li_91, li_97, li_99, li_100, li_122, li_150, li_160, li_200, li_201, li_255, li_300, li_303, li_304, li_305, li_306, li_312, li_400, li_500, li_999, li_1003, li_3099, li_99999, li_100000, li_neg]); simp (disch := omega) only [b_X7_comesBack_61, ic_le_f, ic_le_t, ic_lt_f, ic_lt_t, ic_eq_f, ic_eq_t, ic_im, ic_mi, ic_mm_t, ic_mm_f, ic_mlt, ic_mle, ic_ilem, ic_iltm, ic_mmle_t, ic_mmle_f, pu_add, pu_mul, pu_in, pu_ck, pu_let, pu_cl, pu_cpok, pu_inr, Option.bind_some, ite_true, ite_false])
theorem r7cb {m : qaM} {H : HS} (c : MH m H) (v : HV H) : ∃ m2, f_X7_comesBack m = some m2 ∧ MH m2 (cb H) ∧ qF [36, 39, 40] m m2 ∧ o36 5 m m2 := by
  have h8 := v.n8
  obtain ⟨m2, e1, e2, e3, e4, e5⟩ := lp_for (f := fun s : qaM × Int32 => b_X7_comesBack_2 s.1 s.2) cbS (fun _ x X => MH x X ∧ HV X ∧ X.n = H.n ∧ qF [36, 39, 40] m x ∧ o36 5 m x) H.n (by omega) ⟨c, v, rfl, qF.rf _ _, o36.rf _ _⟩
    (by
      rintro j x X hj ⟨k1, k2, k3, k4, k5⟩
      obtain ⟨x2, g1, g2, g3, g5⟩ := r7cbS k1 k2 (i := j) (by omega)
      have g4 := cbS_V k2 (i := j) (by omega)
      exact ⟨x2, g1, g2, g4.1, g4.2.trans k3, k4.t2 g3 (fun _ z => z), k5.tr g5⟩)
    (by
      rintro x X ⟨k1, k2, k3, k4, k5⟩
      show b_X7_comesBack_2 x (nI H.n) = _
      unfold b_X7_comesBack_2
      rw [k1.2.2.2.1, k3]
      ((try simp only [li_0, li_1, li_2, li_3, li_4, li_5, li_6, li_7, li_8, li_9, li_10, li_11, li_12, li_13, li_14, li_15, li_16, li_17, li_18, li_19, li_20, li_30, li_31, li_32, li_33, li_40, li_41, li_42, li_43, li_45, li_48, li_56, li_57, li_59, li_60, li_61, li_64, li_91, li_97, li_99, li_100, li_122, li_150, li_160, li_200, li_201, li_255, li_300, li_303, li_304, li_305, li_306, li_312, li_400, li_500, li_999, li_1003, li_3099, li_99999, li_100000, li_neg]); simp (disch := omega) only [ic_le_f, ic_le_t, ic_lt_f, ic_lt_t, ic_eq_f, ic_eq_t, ic_im, ic_mi, ic_mm_t, ic_mm_f, ic_mlt, ic_mle, ic_ilem, ic_iltm, ic_mmle_t, ic_mmle_f, pu_add, pu_mul, pu_in, pu_ck, pu_let, pu_cl, pu_cpok, pu_inr, Option.bind_some, ite_true, ite_false]))
  exact ⟨m2, e1, e2, e5⟩
/-- what the reference's law says -/
def TXr (m : qaM) (N : Nat) (S : SF) : Prop := ∀ m2 : qaM, m2 43 = m 43 → m2 44 = m 44 → ∀ (l p : Nat) (f : Nat → Int32), l < N → p < 3 → m2 36 13 = nI l → (∀ k : Nat, k < 6 → m2 55 k = f k) →
  ∃ m3 x, f_X7_says m2 (nI p) = some (x, m3) ∧ f_X7_within m3 x (nI 0) (nI 99) = some (nI (S l p f)) ∧ qF [54] m2 m3
theorem TXr.F {m m2 : qaM} {N : Nat} {S : SF} {l : List Nat} (h : TXr m N S) (hf : qF l m m2) (h1 : 43 ∉ l) (h2 : 44 ∉ l) : TXr m2 N S := by
  intro m3 e1 e2
  exact h m3 (e1.trans (hf 43 h1)) (e2.trans (hf 44 h2))
theorem r7asksOf {m : qaM} {p N : Nat} {H : HS} {S : SF} (c : MH m H) (t : TXr m N S) (hN : H.lw < N) (hp : p < 3) (x1 x2 x3 x4 : Int32) :
    ∃ m2, f_X7_asksOf m (nI p) x1 x2 x3 x4 = some (nI (S H.lw p (nmF x1 x2 x3 x4 (nI H.wk) (nI (H.R 0)))), m2) ∧ qF [54, 55] m m2 := by
  have f1 : qF [55] m (qa_st (qa_st (qa_st (qa_st (qa_st (qa_st m 55 0 x1) 55 1 x2) 55 2 x3) 55 3 x4) 55 4 (nI H.wk)) 55 5 (nI (H.R 0))) :=
    ((((((qF.rf _ m).stl (by simp)).stl (by simp)).stl (by simp)).stl (by simp)).stl (by simp)).stl (by simp)
  obtain ⟨m3, x, e1, e2, e3⟩ := t _ (f1 43 (by decide)) (f1 44 (by decide)) H.lw p (nmF x1 x2 x3 x4 (nI H.wk) (nI (H.R 0))) hN hp (by rw [f1 36 (by decide)]; exact c.2.2.2.2.2) (fun k hk => by
    have hk2 : k = 0 ∨ k = 1 ∨ k = 2 ∨ k = 3 ∨ k = 4 ∨ k = 5 := by omega
    simp only [st_s]
    rcases hk2 with rfl | rfl | rfl | rfl | rfl | rfl <;> rfl)
  refine ⟨m3, ?_, (f1.mo (by simp)).t2 e3 (by simp)⟩
  unfold f_X7_asksOf
  simp only [li_0, li_1, li_2, li_3, li_4, li_5, li_6, li_7, li_8, li_9, li_10, li_11, li_12, li_13, li_14, li_15, li_16, li_17, li_18, li_19, li_20, li_30, li_31, li_32, li_33, li_40, li_41, li_42, li_43, li_45, li_48, li_56, li_57, li_59, li_60, li_61, li_64, li_91, li_97, li_99, li_100, li_122, li_150, li_160, li_200, li_201, li_255, li_300, li_303, li_304, li_305, li_306, li_312, li_400, li_500, li_999, li_1003, li_3099, li_99999, li_100000, li_neg]
  simp only [pu_let]
  have w7 : ∀ a b d e : Int32, qa_st (qa_st (qa_st (qa_st m 55 0 a) 55 1 b) 55 2 d) 55 3 e 36 7 = nI H.wk := fun a b d e => by
    rw [st_n (by omega), st_n (by omega), st_n (by omega), st_n (by omega)]
    exact c.2.2.2.2.1
  have w0 : ∀ a b d e f : Int32, qa_st (qa_st (qa_st (qa_st (qa_st m 55 0 a) 55 1 b) 55 2 d) 55 3 e) 55 4 f 41 0 = nI (H.R 0) := fun a b d e f => by
    rw [st_n (by omega), st_n (by omega), st_n (by omega), st_n (by omega), st_n (by omega)]
    exact c.2.2.1 0 (by omega)
  rw [w7, w0, e1, Option.bind_some, e2, Option.bind_some]
theorem r7yell {m : qaM} {i N : Nat} {H : HS} {S : SF} (c : MH m H) (v : HV H) (t : TXr m N S) (hN : H.lw < N) (hi : i < H.n) : ∃ m2, f_X7_yellowsOf m (nI i) = some (nI (yeB (H.A i) (S H.lw 1 (nmA H (H.A i)))), m2) ∧ qF [54, 55] m m2 := by
  have h8 := v.n8
  have a0 := (v.av i).1
  have a4 := (v.av i).2.2.2.2.1
  obtain ⟨m2, e1, e2⟩ := r7asksOf c t hN (p := 1) (by omega) (nI (H.A i 2)) (nI (H.A i 4)) (nI (H.A i 1)) (nI (H.A i 5))
  have r0 : m 39 (6 * i) = nI (H.A i 2) := r7row c hi (k := 0) (by omega) (by omega)
  have r2 : m 39 (6 * i + 2) = nI (H.A i 4) := r7row c hi (k := 2) (by omega) (by omega)
  have r3 : m 39 (6 * i + 3) = nI (H.A i 5) := r7row c hi (k := 3) (by omega) (by omega)
  have rm := c.1.2.1 i hi
  have rk : m2 37 i = nI (H.A i 0) := by
    rw [e2 37 (by decide)]
    exact c.1.1 i hi
  have r22 : m2 39 (6 * i + 2) = nI (H.A i 4) := by
    rw [e2 39 (by decide)]
    exact r2
  refine ⟨m2, ?_, e2⟩
  unfold f_X7_yellowsOf yeB nmA
  ((try simp only [li_0, li_1, li_2, li_3, li_4, li_5, li_6, li_7, li_8, li_9, li_10, li_11, li_12, li_13, li_14, li_15, li_16, li_17, li_18, li_19, li_20, li_30, li_31, li_32, li_33, li_40, li_41, li_42, li_43, li_45, li_48, li_56, li_57, li_59, li_60, li_61, li_64, li_91, li_97, li_99, li_100, li_122, li_150, li_160, li_200, li_201, li_255, li_300, li_303, li_304, li_305, li_306, li_312, li_400, li_500, li_999, li_1003, li_3099, li_99999, li_100000, li_neg]); simp (disch := omega) only [ic_le_f, ic_le_t, ic_lt_f, ic_lt_t, ic_eq_f, ic_eq_t, ic_im, ic_mi, ic_mm_t, ic_mm_f, ic_mlt, ic_mle, ic_ilem, ic_iltm, ic_mmle_t, ic_mmle_f, pu_add, pu_mul, pu_in, pu_ck, pu_let, pu_cl, pu_cpok, pu_inr, Option.bind_some, ite_true, ite_false])
  rw [r0, r2, rm, r3, e1]
  ((try simp only [li_0, li_1, li_2, li_3, li_4, li_5, li_6, li_7, li_8, li_9, li_10, li_11, li_12, li_13, li_14, li_15, li_16, li_17, li_18, li_19, li_20, li_30, li_31, li_32, li_33, li_40, li_41, li_42, li_43, li_45, li_48, li_56, li_57, li_59, li_60, li_61, li_64, li_91, li_97, li_99, li_100, li_122, li_150, li_160, li_200, li_201, li_255, li_300, li_303, li_304, li_305, li_306, li_312, li_400, li_500, li_999, li_1003, li_3099, li_99999, li_100000, li_neg]); simp (disch := omega) only [ic_le_f, ic_le_t, ic_lt_f, ic_lt_t, ic_eq_f, ic_eq_t, ic_im, ic_mi, ic_mm_t, ic_mm_f, ic_mlt, ic_mle, ic_ilem, ic_iltm, ic_mmle_t, ic_mmle_f, pu_add, pu_mul, pu_in, pu_ck, pu_let, pu_cl, pu_cpok, pu_inr, Option.bind_some, ite_true, ite_false])
  rw [rk, r22]
  by_cases q1 : H.A i 0 = 1
  · rw [if_pos q1, q1]
    ((try simp only [li_0, li_1, li_2, li_3, li_4, li_5, li_6, li_7, li_8, li_9, li_10, li_11, li_12, li_13, li_14, li_15, li_16, li_17, li_18, li_19, li_20, li_30, li_31, li_32, li_33, li_40, li_41, li_42, li_43, li_45, li_48, li_56, li_57, li_59, li_60, li_61, li_64, li_91, li_97, li_99, li_100, li_122, li_150, li_160, li_200, li_201, li_255, li_300, li_303, li_304, li_305, li_306, li_312, li_400, li_500, li_999, li_1003, li_3099, li_99999, li_100000, li_neg]); simp (disch := omega) only [ic_le_f, ic_le_t, ic_lt_f, ic_lt_t, ic_eq_f, ic_eq_t, ic_im, ic_mi, ic_mm_t, ic_mm_f, ic_mlt, ic_mle, ic_ilem, ic_iltm, ic_mmle_t, ic_mmle_f, pu_add, pu_mul, pu_in, pu_ck, pu_let, pu_cl, pu_cpok, pu_inr, Option.bind_some, ite_true, ite_false])
  rw [if_neg q1]
  by_cases q3 : H.A i 0 = 3
  · rw [if_pos q3, q3]
    by_cases q : H.A i 4 ≤ 10
    · rw [if_pos q]
      ((try simp only [li_0, li_1, li_2, li_3, li_4, li_5, li_6, li_7, li_8, li_9, li_10, li_11, li_12, li_13, li_14, li_15, li_16, li_17, li_18, li_19, li_20, li_30, li_31, li_32, li_33, li_40, li_41, li_42, li_43, li_45, li_48, li_56, li_57, li_59, li_60, li_61, li_64, li_91, li_97, li_99, li_100, li_122, li_150, li_160, li_200, li_201, li_255, li_300, li_303, li_304, li_305, li_306, li_312, li_400, li_500, li_999, li_1003, li_3099, li_99999, li_100000, li_neg]); simp (disch := omega) only [ic_le_f, ic_le_t, ic_lt_f, ic_lt_t, ic_eq_f, ic_eq_t, ic_im, ic_mi, ic_mm_t, ic_mm_f, ic_mlt, ic_mle, ic_ilem, ic_iltm, ic_mmle_t, ic_mmle_f, pu_add, pu_mul, pu_in, pu_ck, pu_let, pu_cl, pu_cpok, pu_inr, Option.bind_some, ite_true, ite_false])
    · rw [if_neg q]
      ((try simp only [li_0, li_1, li_2, li_3, li_4, li_5, li_6, li_7, li_8, li_9, li_10, li_11, li_12, li_13, li_14, li_15, li_16, li_17, li_18, li_19, li_20, li_30, li_31, li_32, li_33, li_40, li_41, li_42, li_43, li_45, li_48, li_56, li_57, li_59, li_60, li_61, li_64, li_91, li_97, li_99, li_100, li_122, li_150, li_160, li_200, li_201, li_255, li_300, li_303, li_304, li_305, li_306, li_312, li_400, li_500, li_999, li_1003, li_3099, li_99999, li_100000, li_neg]); simp (disch := omega) only [ic_le_f, ic_le_t, ic_lt_f, ic_lt_t, ic_eq_f, ic_eq_t, ic_im, ic_mi, ic_mm_t, ic_mm_f, ic_mlt, ic_mle, ic_ilem, ic_iltm, ic_mmle_t, ic_mmle_f, pu_add, pu_mul, pu_in, pu_ck, pu_let, pu_cl, pu_cpok, pu_inr, Option.bind_some, ite_true, ite_false])
  rw [if_neg q3]
  ((try simp only [li_0, li_1, li_2, li_3, li_4, li_5, li_6, li_7, li_8, li_9, li_10, li_11, li_12, li_13, li_14, li_15, li_16, li_17, li_18, li_19, li_20, li_30, li_31, li_32, li_33, li_40, li_41, li_42, li_43, li_45, li_48, li_56, li_57, li_59, li_60, li_61, li_64, li_91, li_97, li_99, li_100, li_122, li_150, li_160, li_200, li_201, li_255, li_300, li_303, li_304, li_305, li_306, li_312, li_400, li_500, li_999, li_1003, li_3099, li_99999, li_100000, li_neg]); simp (disch := omega) only [ic_le_f, ic_le_t, ic_lt_f, ic_lt_t, ic_eq_f, ic_eq_t, ic_im, ic_mi, ic_mm_t, ic_mm_f, ic_mlt, ic_mle, ic_ilem, ic_iltm, ic_mmle_t, ic_mmle_f, pu_add, pu_mul, pu_in, pu_ck, pu_let, pu_cl, pu_cpok, pu_inr, Option.bind_some, ite_true, ite_false])
theorem yeB_le {a : AL} {s : Nat} (hs : s ≤ 99) : yeB a s ≤ 200 := by
  unfold yeB
  repeat' split
  all_goals omega
theorem r7lieS {m : qaM} {j N : Nat} {H : HS} {S : SF} (c : MH m H) (v : HV H) (t : TXr m N S) (sv : SV S) (hN : H.lw < N) (hj : j < H.P.length) : ∃ m2, b_X7_lie_2 m (nI j) = some (.inl (m2, nI (j + 1))) ∧ MH m2 (yeS S j H) ∧ qF [39, 54, 55] m m2 := by
  have h8 := c.2.1.2.1
  have n8 := v.n8
  have hi := v.lt _ (getD_mem hj)
  obtain ⟨m2, e1, e2⟩ := r7yell c v t hN hi
  have c2 : MH m2 H := c.F2 e2 (by decide) (by decide) (by decide) (by decide) (by decide) (by decide)
  have hy := yeB_le (a := H.A (H.P.getD j 0)) (sv H.lw 1 (nmA H (H.A (H.P.getD j 0))))
  have a3 := (v.av (H.P.getD j 0)).2.2.2.1
  have a4 := (v.av (H.P.getD j 0)).2.2.2.2.1
  have c3 : MH (qa_st m2 39 (6 * H.P.getD j 0 + 1) (nI (mnN 99 (H.A (H.P.getD j 0) 3 + yeB (H.A (H.P.getD j 0)) (S H.lw 1 (nmA H (H.A (H.P.getD j 0)))))))) (H.setA (H.P.getD j 0) (aU (H.A (H.P.getD j 0)) 3 (mnN 99 (H.A (H.P.getD j 0) 3 + yeB (H.A (H.P.getD j 0)) (S H.lw 1 (nmA H (H.A (H.P.getD j 0)))))))) := r7set c2 (k := 1) (by omega) (by omega)
  have c4 := r7set c3 (i := H.P.getD j 0) (k := 2) (v := mnN 999 (H.A (H.P.getD j 0) 4 + 1)) (by omega) (by omega)
  rw [setA_s, setA_2] at c4
  have r1 : m 39 (6 * H.P.getD j 0 + 1) = nI (H.A (H.P.getD j 0) 3) := r7row c hi (k := 1) (by omega) (by omega)
  have r2 : m2 39 (6 * H.P.getD j 0 + 2) = nI (H.A (H.P.getD j 0) 4) := r7row c2 hi (k := 2) (by omega) (by omega)
  refine ⟨_, ?_, c4, (((e2.mo (by simp)).stl (by simp)).stl (by simp))⟩
  unfold b_X7_lie_2
  rw [c.2.1.1]
  ((try simp only [li_0, li_1, li_2, li_3, li_4, li_5, li_6, li_7, li_8, li_9, li_10, li_11, li_12, li_13, li_14, li_15, li_16, li_17, li_18, li_19, li_20, li_30, li_31, li_32, li_33, li_40, li_41, li_42, li_43, li_45, li_48, li_56, li_57, li_59, li_60, li_61, li_64, li_91, li_97, li_99, li_100, li_122, li_150, li_160, li_200, li_201, li_255, li_300, li_303, li_304, li_305, li_306, li_312, li_400, li_500, li_999, li_1003, li_3099, li_99999, li_100000, li_neg]); simp (disch := omega) only [ic_le_f, ic_le_t, ic_lt_f, ic_lt_t, ic_eq_f, ic_eq_t, ic_im, ic_mi, ic_mm_t, ic_mm_f, ic_mlt, ic_mle, ic_ilem, ic_iltm, ic_mmle_t, ic_mmle_f, pu_add, pu_mul, pu_in, pu_ck, pu_let, pu_cl, pu_cpok, pu_inr, Option.bind_some, ite_true, ite_false])
  rw [c.2.1.2.2 j hj]
  ((try simp only [li_0, li_1, li_2, li_3, li_4, li_5, li_6, li_7, li_8, li_9, li_10, li_11, li_12, li_13, li_14, li_15, li_16, li_17, li_18, li_19, li_20, li_30, li_31, li_32, li_33, li_40, li_41, li_42, li_43, li_45, li_48, li_56, li_57, li_59, li_60, li_61, li_64, li_91, li_97, li_99, li_100, li_122, li_150, li_160, li_200, li_201, li_255, li_300, li_303, li_304, li_305, li_306, li_312, li_400, li_500, li_999, li_1003, li_3099, li_99999, li_100000, li_neg]); simp (disch := omega) only [ic_le_f, ic_le_t, ic_lt_f, ic_lt_t, ic_eq_f, ic_eq_t, ic_im, ic_mi, ic_mm_t, ic_mm_f, ic_mlt, ic_mle, ic_ilem, ic_iltm, ic_mmle_t, ic_mmle_f, pu_add, pu_mul, pu_in, pu_ck, pu_let, pu_cl, pu_cpok, pu_inr, Option.bind_some, ite_true, ite_false])
  rw [e1]
  ((try simp only [li_0, li_1, li_2, li_3, li_4, li_5, li_6, li_7, li_8, li_9, li_10, li_11, li_12, li_13, li_14, li_15, li_16, li_17, li_18, li_19, li_20, li_30, li_31, li_32, li_33, li_40, li_41, li_42, li_43, li_45, li_48, li_56, li_57, li_59, li_60, li_61, li_64, li_91, li_97, li_99, li_100, li_122, li_150, li_160, li_200, li_201, li_255, li_300, li_303, li_304, li_305, li_306, li_312, li_400, li_500, li_999, li_1003, li_3099, li_99999, li_100000, li_neg]); simp (disch := omega) only [ic_le_f, ic_le_t, ic_lt_f, ic_lt_t, ic_eq_f, ic_eq_t, ic_im, ic_mi, ic_mm_t, ic_mm_f, ic_mlt, ic_mle, ic_ilem, ic_iltm, ic_mmle_t, ic_mmle_f, pu_add, pu_mul, pu_in, pu_ck, pu_let, pu_cl, pu_cpok, pu_inr, Option.bind_some, ite_true, ite_false])
  rw [r1, pu_add, r7within (by omega) (by omega)]
  ((try simp only [li_0, li_1, li_2, li_3, li_4, li_5, li_6, li_7, li_8, li_9, li_10, li_11, li_12, li_13, li_14, li_15, li_16, li_17, li_18, li_19, li_20, li_30, li_31, li_32, li_33, li_40, li_41, li_42, li_43, li_45, li_48, li_56, li_57, li_59, li_60, li_61, li_64, li_91, li_97, li_99, li_100, li_122, li_150, li_160, li_200, li_201, li_255, li_300, li_303, li_304, li_305, li_306, li_312, li_400, li_500, li_999, li_1003, li_3099, li_99999, li_100000, li_neg]); simp (disch := omega) only [ic_le_f, ic_le_t, ic_lt_f, ic_lt_t, ic_eq_f, ic_eq_t, ic_im, ic_mi, ic_mm_t, ic_mm_f, ic_mlt, ic_mle, ic_ilem, ic_iltm, ic_mmle_t, ic_mmle_f, pu_add, pu_mul, pu_in, pu_ck, pu_let, pu_cl, pu_cpok, pu_inr, Option.bind_some, ite_true, ite_false])
  rw [st_s, up_n (by omega), r2, pu_add, r7within (by omega) (by omega)]
  ((try simp only [li_0, li_1, li_2, li_3, li_4, li_5, li_6, li_7, li_8, li_9, li_10, li_11, li_12, li_13, li_14, li_15, li_16, li_17, li_18, li_19, li_20, li_30, li_31, li_32, li_33, li_40, li_41, li_42, li_43, li_45, li_48, li_56, li_57, li_59, li_60, li_61, li_64, li_91, li_97, li_99, li_100, li_122, li_150, li_160, li_200, li_201, li_255, li_300, li_303, li_304, li_305, li_306, li_312, li_400, li_500, li_999, li_1003, li_3099, li_99999, li_100000, li_neg]); simp (disch := omega) only [ic_le_f, ic_le_t, ic_lt_f, ic_lt_t, ic_eq_f, ic_eq_t, ic_im, ic_mi, ic_mm_t, ic_mm_f, ic_mlt, ic_mle, ic_ilem, ic_iltm, ic_mmle_t, ic_mmle_f, pu_add, pu_mul, pu_in, pu_ck, pu_let, pu_cl, pu_cpok, pu_inr, Option.bind_some, ite_true, ite_false])
theorem r7lie {m : qaM} {N v0 : Nat} {H : HS} {S : SF} (c : MH m H) (v : HV H) (w : WV H v0 0) (t : TXr m N S) (sv : SV S) (hN : H.lw < N) : ∃ m2, f_X7_lie m = some m2 ∧ MH m2 (yel S H) ∧ qF [39, 54, 55] m m2 := by
  have h8 := c.2.1.2.1
  obtain ⟨m2, e1, e2, _, _, _, _, e5⟩ := lp_for (f := fun s : qaM × Int32 => b_X7_lie_2 s.1 s.2) (yeS S) (fun _ x X => MH x X ∧ HV X ∧ WV X v0 0 ∧ X.P = H.P ∧ X.lw = H.lw ∧ qF [39, 54, 55] m x) H.P.length (by omega) ⟨c, v, w, rfl, rfl, qF.rf _ _⟩
    (by
      rintro j x X hj ⟨k1, k2, k3, k4, k5, k6⟩
      obtain ⟨x2, g1, g2, g3⟩ := r7lieS k1 k2 (t.F k6 (by decide) (by decide)) sv (by rw [k5]; exact hN) (j := j) (by rw [k4]; exact hj)
      have g4 := yeS_V (S := S) k2 k3 (j := j) (by rw [k4]; exact hj)
      exact ⟨x2, g1, g2, g4.1, g4.2.1, g4.2.2.2.trans k4, k5, k6.t2 g3 (fun _ z => z)⟩)
    (by
      rintro x X ⟨k1, k2, k3, k4, k5, k6⟩
      show b_X7_lie_2 x (nI H.P.length) = _
      unfold b_X7_lie_2
      rw [k1.2.1.1, k4]
      ((try simp only [li_0, li_1, li_2, li_3, li_4, li_5, li_6, li_7, li_8, li_9, li_10, li_11, li_12, li_13, li_14, li_15, li_16, li_17, li_18, li_19, li_20, li_30, li_31, li_32, li_33, li_40, li_41, li_42, li_43, li_45, li_48, li_56, li_57, li_59, li_60, li_61, li_64, li_91, li_97, li_99, li_100, li_122, li_150, li_160, li_200, li_201, li_255, li_300, li_303, li_304, li_305, li_306, li_312, li_400, li_500, li_999, li_1003, li_3099, li_99999, li_100000, li_neg]); simp (disch := omega) only [ic_le_f, ic_le_t, ic_lt_f, ic_lt_t, ic_eq_f, ic_eq_t, ic_im, ic_mi, ic_mm_t, ic_mm_f, ic_mlt, ic_mle, ic_ilem, ic_iltm, ic_mmle_t, ic_mmle_f, pu_add, pu_mul, pu_in, pu_ck, pu_let, pu_cl, pu_cpok, pu_inr, Option.bind_some, ite_true, ite_false]))
  exact ⟨m2, e1, e2, e5⟩
