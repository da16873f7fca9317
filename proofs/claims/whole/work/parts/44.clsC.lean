/-! PURE: the class's house, its week -/
def TXc (m : qaM) (N : Nat) (S : SF) : Prop := ∀ m2 : qaM, m2 1 = m 1 → m2 2 = m 2 → m2 3 = m 3 → ∀ (l p : Nat) (f : Nat → Int32), l < N → p < 3 → (∀ k : Nat, k < 6 → m2 4 k = f k) → ∃ m3, f_X5_says m2 (nI l) (nI p) = some (nI (S l p f), m3) ∧ qF [5] m2 m3
theorem TXc.F {m m2 : qaM} {N : Nat} {S : SF} {l : List Nat} (h : TXc m N S) (hf : qF l m m2) (h1 : 1 ∉ l) (h2 : 2 ∉ l) (h3 : 3 ∉ l) : TXc m2 N S := by
  intro m3 e1 e2 e3
  exact h m3 (e1.trans (hf 1 h1)) (e2.trans (hf 2 h2)) (e3.trans (hf 3 h3))
theorem pu_min {a b : Nat} (ha : a < 2 ^ 31) (hb : b < 2 ^ 31) : qa_min (nI a) (nI b) = nI (mnN a b) := by
  unfold qa_min mnN
  by_cases q : b < a
  · rw [if_pos q, if_pos (nI_lt q ha)]
  · rw [if_neg q, if_neg (nI_nlt (by omega) hb)]
theorem ctells {m : qaM} {h i : Nat} {H : HS} (c : CH m h H) (hh : 8 ≤ h) (hi : i < 8) : ∃ m2, f_X0_tellsOf h m (nI i) = some m2 ∧ qF [4] m m2 ∧ ∀ k : Nat, k < 6 → m2 4 k = nmA H (H.A i) k := by
  refine ⟨qa_st (qa_st (qa_st (qa_st (qa_st (qa_st m 4 0 (nI (H.A i 2))) 4 1 (nI (H.A i 4))) 4 2 (nI (H.A i 1))) 4 3 (nI (H.A i 5))) 4 4 (nI H.wk)) 4 5 (nI (H.R 0)), ?_, ?_, ?_⟩
  · unfold f_X0_tellsOf
    simp only [li_0, li_1, li_2, li_3, li_4, li_5, li_6, li_7, li_8, li_9, li_10, li_11, li_12, li_13, li_14, li_15, li_16, li_17, li_18, li_19, li_20, li_30, li_31, li_32, li_33, li_40, li_41, li_42, li_43, li_45, li_48, li_56, li_57, li_59, li_60, li_61, li_64, li_91, li_97, li_99, li_100, li_122, li_150, li_160, li_200, li_201, li_255, li_300, li_303, li_304, li_305, li_306, li_312, li_400, li_500, li_999, li_1003, li_3099, li_99999, li_100000, li_neg]
    rw [cfact c hi (by omega) (by omega), Option.bind_some, cfact c hi (by omega) (by omega), Option.bind_some, cfact c hi (by omega) (by omega), Option.bind_some, cfact c hi (by omega) (by omega), Option.bind_some]
    unfold f_X5_tellsLinen
    ((try simp only [li_0, li_1, li_2, li_3, li_4, li_5, li_6, li_7, li_8, li_9, li_10, li_11, li_12, li_13, li_14, li_15, li_16, li_17, li_18, li_19, li_20, li_30, li_31, li_32, li_33, li_40, li_41, li_42, li_43, li_45, li_48, li_56, li_57, li_59, li_60, li_61, li_64, li_91, li_97, li_99, li_100, li_122, li_150, li_160, li_200, li_201, li_255, li_300, li_303, li_304, li_305, li_306, li_312, li_400, li_500, li_999, li_1003, li_3099, li_99999, li_100000, li_neg]); simp (disch := omega) only [ic_le_f, ic_le_t, ic_lt_f, ic_lt_t, ic_eq_f, ic_eq_t, ic_im, ic_mi, ic_mm_t, ic_mm_f, ic_mlt, ic_mle, ic_ilem, ic_iltm, ic_mmle_t, ic_mmle_f, pu_add, pu_mul, pu_in, pu_ck, pu_let, pu_cl, pu_cpok, pu_inr, Option.bind_some, ite_true, ite_false])
    unfold f_X5_tellsWeek
    ((try simp only [li_0, li_1, li_2, li_3, li_4, li_5, li_6, li_7, li_8, li_9, li_10, li_11, li_12, li_13, li_14, li_15, li_16, li_17, li_18, li_19, li_20, li_30, li_31, li_32, li_33, li_40, li_41, li_42, li_43, li_45, li_48, li_56, li_57, li_59, li_60, li_61, li_64, li_91, li_97, li_99, li_100, li_122, li_150, li_160, li_200, li_201, li_255, li_300, li_303, li_304, li_305, li_306, li_312, li_400, li_500, li_999, li_1003, li_3099, li_99999, li_100000, li_neg]); simp (disch := omega) only [ic_le_f, ic_le_t, ic_lt_f, ic_lt_t, ic_eq_f, ic_eq_t, ic_im, ic_mi, ic_mm_t, ic_mm_f, ic_mlt, ic_mle, ic_ilem, ic_iltm, ic_mmle_t, ic_mmle_f, pu_add, pu_mul, pu_in, pu_ck, pu_let, pu_cl, pu_cpok, pu_inr, Option.bind_some, ite_true, ite_false])
    rw [st_n (by omega), st_n (by omega), st_n (by omega), st_n (by omega), c.2.2.2.1, st_n (by omega), st_n (by omega), st_n (by omega), st_n (by omega), c.2.2.1 0 (by omega)]
  · intro a ha
    have ha2 : a ≠ 4 := by simpa using ha
    rw [st_n ha2, st_n ha2, st_n ha2, st_n ha2, st_n ha2, st_n ha2]
  · intro k hk
    have hk2 : k = 0 ∨ k = 1 ∨ k = 2 ∨ k = 3 ∨ k = 4 ∨ k = 5 := by omega
    simp only [st_s]
    rcases hk2 with rfl | rfl | rfl | rfl | rfl | rfl <;> rfl
theorem cyBy {m : qaM} {h i s : Nat} {H : HS} (c : CH m h H) (v : HV H) (hi : i < 8) : f_X1_yellowsBy (h + 1) m (nI i) (nI s) = some (nI (yeB (H.A i) s)) := by
  have a0 := (v.av i).1
  have a4 := (v.av i).2.2.2.2.1
  unfold f_X1_yellowsBy yeB
  simp only [li_0, li_1, li_2, li_3, li_4, li_5, li_6, li_7, li_8, li_9, li_10, li_11, li_12, li_13, li_14, li_15, li_16, li_17, li_18, li_19, li_20, li_30, li_31, li_32, li_33, li_40, li_41, li_42, li_43, li_45, li_48, li_56, li_57, li_59, li_60, li_61, li_64, li_91, li_97, li_99, li_100, li_122, li_150, li_160, li_200, li_201, li_255, li_300, li_303, li_304, li_305, li_306, li_312, li_400, li_500, li_999, li_1003, li_3099, li_99999, li_100000, li_neg]
  rw [cfact c hi (by omega) (by omega)]
  by_cases q1 : H.A i 0 = 1
  · rw [if_pos q1, q1]
    ((try simp only [li_0, li_1, li_2, li_3, li_4, li_5, li_6, li_7, li_8, li_9, li_10, li_11, li_12, li_13, li_14, li_15, li_16, li_17, li_18, li_19, li_20, li_30, li_31, li_32, li_33, li_40, li_41, li_42, li_43, li_45, li_48, li_56, li_57, li_59, li_60, li_61, li_64, li_91, li_97, li_99, li_100, li_122, li_150, li_160, li_200, li_201, li_255, li_300, li_303, li_304, li_305, li_306, li_312, li_400, li_500, li_999, li_1003, li_3099, li_99999, li_100000, li_neg]); simp (disch := omega) only [ic_le_f, ic_le_t, ic_lt_f, ic_lt_t, ic_eq_f, ic_eq_t, ic_im, ic_mi, ic_mm_t, ic_mm_f, ic_mlt, ic_mle, ic_ilem, ic_iltm, ic_mmle_t, ic_mmle_f, pu_add, pu_mul, pu_in, pu_ck, pu_let, pu_cl, pu_cpok, pu_inr, Option.bind_some, ite_true, ite_false])
  rw [if_neg q1]
  by_cases q3 : H.A i 0 = 3
  · rw [if_pos q3, q3]
    ((try simp only [li_0, li_1, li_2, li_3, li_4, li_5, li_6, li_7, li_8, li_9, li_10, li_11, li_12, li_13, li_14, li_15, li_16, li_17, li_18, li_19, li_20, li_30, li_31, li_32, li_33, li_40, li_41, li_42, li_43, li_45, li_48, li_56, li_57, li_59, li_60, li_61, li_64, li_91, li_97, li_99, li_100, li_122, li_150, li_160, li_200, li_201, li_255, li_300, li_303, li_304, li_305, li_306, li_312, li_400, li_500, li_999, li_1003, li_3099, li_99999, li_100000, li_neg]); simp (disch := omega) only [ic_le_f, ic_le_t, ic_lt_f, ic_lt_t, ic_eq_f, ic_eq_t, ic_im, ic_mi, ic_mm_t, ic_mm_f, ic_mlt, ic_mle, ic_ilem, ic_iltm, ic_mmle_t, ic_mmle_f, pu_add, pu_mul, pu_in, pu_ck, pu_let, pu_cl, pu_cpok, pu_inr, Option.bind_some, ite_true, ite_false])
    rw [cfact c hi (by omega) (by omega)]
    by_cases q : H.A i 4 ≤ 10
    · rw [if_pos q]
      ((try simp only [li_0, li_1, li_2, li_3, li_4, li_5, li_6, li_7, li_8, li_9, li_10, li_11, li_12, li_13, li_14, li_15, li_16, li_17, li_18, li_19, li_20, li_30, li_31, li_32, li_33, li_40, li_41, li_42, li_43, li_45, li_48, li_56, li_57, li_59, li_60, li_61, li_64, li_91, li_97, li_99, li_100, li_122, li_150, li_160, li_200, li_201, li_255, li_300, li_303, li_304, li_305, li_306, li_312, li_400, li_500, li_999, li_1003, li_3099, li_99999, li_100000, li_neg]); simp (disch := omega) only [ic_le_f, ic_le_t, ic_lt_f, ic_lt_t, ic_eq_f, ic_eq_t, ic_im, ic_mi, ic_mm_t, ic_mm_f, ic_mlt, ic_mle, ic_ilem, ic_iltm, ic_mmle_t, ic_mmle_f, pu_add, pu_mul, pu_in, pu_ck, pu_let, pu_cl, pu_cpok, pu_inr, Option.bind_some, ite_true, ite_false])
    · rw [if_neg q]
      ((try simp only [li_0, li_1, li_2, li_3, li_4, li_5, li_6, li_7, li_8, li_9, li_10, li_11, li_12, li_13, li_14, li_15, li_16, li_17, li_18, li_19, li_20, li_30, li_31, li_32, li_33, li_40, li_41, li_42, li_43, li_45, li_48, li_56, li_57, li_59, li_60, li_61, li_64, li_91, li_97, li_99, li_100, li_122, li_150, li_160, li_200, li_201, li_255, li_300, li_303, li_304, li_305, li_306, li_312, li_400, li_500, li_999, li_1003, li_3099, li_99999, li_100000, li_neg]); simp (disch := omega) only [ic_le_f, ic_le_t, ic_lt_f, ic_lt_t, ic_eq_f, ic_eq_t, ic_im, ic_mi, ic_mm_t, ic_mm_f, ic_mlt, ic_mle, ic_ilem, ic_iltm, ic_mmle_t, ic_mmle_f, pu_add, pu_mul, pu_in, pu_ck, pu_let, pu_cl, pu_cpok, pu_inr, Option.bind_some, ite_true, ite_false])
  rw [if_neg q3]
  ((try simp only [li_0, li_1, li_2, li_3, li_4, li_5, li_6, li_7, li_8, li_9, li_10, li_11, li_12, li_13, li_14, li_15, li_16, li_17, li_18, li_19, li_20, li_30, li_31, li_32, li_33, li_40, li_41, li_42, li_43, li_45, li_48, li_56, li_57, li_59, li_60, li_61, li_64, li_91, li_97, li_99, li_100, li_122, li_150, li_160, li_200, li_201, li_255, li_300, li_303, li_304, li_305, li_306, li_312, li_400, li_500, li_999, li_1003, li_3099, li_99999, li_100000, li_neg]); simp (disch := omega) only [ic_le_f, ic_le_t, ic_lt_f, ic_lt_t, ic_eq_f, ic_eq_t, ic_im, ic_mi, ic_mm_t, ic_mm_f, ic_mlt, ic_mle, ic_ilem, ic_iltm, ic_mmle_t, ic_mmle_f, pu_add, pu_mul, pu_in, pu_ck, pu_let, pu_cl, pu_cpok, pu_inr, Option.bind_some, ite_true, ite_false])
theorem setA_2 (H : HS) (i : Nat) (a b : AL) : (H.setA i a).setA i b = H.setA i b := by
  unfold HS.setA
  congr 1
  congr 1
  funext j
  show (if j = i then b else (if j = i then a else H.A j)) = (if j = i then b else H.A j)
  by_cases q : j = i
  · rw [if_pos q, if_pos q]
  · rw [if_neg q, if_neg q, if_neg q]
theorem cyS {m : qaM} {h j N : Nat} {H : HS} {S : SF} (c : CH m h H) (v : HV H) (hh : 8 ≤ h) (t : TXc m N S) (sv : SV S) (hN : H.lw < N) (hj : j < H.P.length) : ∃ m2, b_X0_yellows_2 h m (nI j) = some (.inl (m2, nI (j + 1))) ∧ CH m2 h (yeS S j H) ∧ qF [h + 2, 4, 5] m m2 := by
  have h8 := c.2.1.2.1
  have hi := v.i8 _ (getD_mem hj)
  obtain ⟨m2, e1, e2, e3⟩ := ctells c hh hi
  obtain ⟨m3, g1, g2⟩ := t m2 (e2 1 (by simp)) (e2 2 (by simp)) (e2 3 (by simp)) H.lw 1 (nmA H (H.A (H.P.getD j 0))) hN (by omega) e3
  have f3 : qF [4, 5] m m3 := (e2.mo (by simp)).t2 g2 (by simp)
  have c3 := c.F f3 (by simp; omega) (by simp; omega) (by simp; omega) (by simp; omega) (by simp; omega) (by simp; omega)
  have hs := sv H.lw 1 (nmA H (H.A (H.P.getD j 0)))
  have hy : yeB (H.A (H.P.getD j 0)) (S H.lw 1 (nmA H (H.A (H.P.getD j 0)))) ≤ 1000 := by
    unfold yeB
    split
    · omega
    · split
      · split <;> omega
      · omega
  have a3 := (v.av (H.P.getD j 0)).2.2.2.1
  have a4 := (v.av (H.P.getD j 0)).2.2.2.2.1
  obtain ⟨m4, k1, k2, k3⟩ := cnotes (k := 3) (v := mnN 99 (H.A (H.P.getD j 0) 3 + yeB (H.A (H.P.getD j 0)) (S H.lw 1 (nmA H (H.A (H.P.getD j 0)))))) c3 hi (by omega) (fun q => by omega)
  obtain ⟨m5, l1, l2, l3⟩ := cnotes (k := 4) (v := mnN 999 (H.A (H.P.getD j 0) 4 + 1)) k2 hi (by omega) (fun q => by omega)
  rw [setA_s, setA_2] at l2
  refine ⟨m5, ?_, l2, ((f3.mo (by simp)).t2 k3 (by simp)).t2 l3 (by simp)⟩
  unfold b_X0_yellows_2
  rw [c.2.1.1]
  ((try simp only [li_0, li_1, li_2, li_3, li_4, li_5, li_6, li_7, li_8, li_9, li_10, li_11, li_12, li_13, li_14, li_15, li_16, li_17, li_18, li_19, li_20, li_30, li_31, li_32, li_33, li_40, li_41, li_42, li_43, li_45, li_48, li_56, li_57, li_59, li_60, li_61, li_64, li_91, li_97, li_99, li_100, li_122, li_150, li_160, li_200, li_201, li_255, li_300, li_303, li_304, li_305, li_306, li_312, li_400, li_500, li_999, li_1003, li_3099, li_99999, li_100000, li_neg]); simp (disch := omega) only [ic_le_f, ic_le_t, ic_lt_f, ic_lt_t, ic_eq_f, ic_eq_t, ic_im, ic_mi, ic_mm_t, ic_mm_f, ic_mlt, ic_mle, ic_ilem, ic_iltm, ic_mmle_t, ic_mmle_f, pu_add, pu_mul, pu_in, pu_ck, pu_let, pu_cl, pu_cpok, pu_inr, Option.bind_some, ite_true, ite_false])
  rw [at_ok c.2.1 hj, Option.bind_some, e1, Option.bind_some, e2 h (by simp; omega), c.2.2.2.2, g1, Option.bind_some, cyBy c3 v hi, Option.bind_some, cfact c3 hi (by omega) (by omega), Option.bind_some, pu_add, pu_min (by omega) (by omega), k1, Option.bind_some, cfact k2 hi (by omega) (by omega), Option.bind_some, setA_s, aU_n (by omega), pu_add, pu_min (by omega) (by omega), l1]
  ((try simp only [li_0, li_1, li_2, li_3, li_4, li_5, li_6, li_7, li_8, li_9, li_10, li_11, li_12, li_13, li_14, li_15, li_16, li_17, li_18, li_19, li_20, li_30, li_31, li_32, li_33, li_40, li_41, li_42, li_43, li_45, li_48, li_56, li_57, li_59, li_60, li_61, li_64, li_91, li_97, li_99, li_100, li_122, li_150, li_160, li_200, li_201, li_255, li_300, li_303, li_304, li_305, li_306, li_312, li_400, li_500, li_999, li_1003, li_3099, li_99999, li_100000, li_neg]); simp (disch := omega) only [ic_le_f, ic_le_t, ic_lt_f, ic_lt_t, ic_eq_f, ic_eq_t, ic_im, ic_mi, ic_mm_t, ic_mm_f, ic_mlt, ic_mle, ic_ilem, ic_iltm, ic_mmle_t, ic_mmle_f, pu_add, pu_mul, pu_in, pu_ck, pu_let, pu_cl, pu_cpok, pu_inr, Option.bind_some, ite_true, ite_false])
theorem cyel {m : qaM} {h N : Nat} {H : HS} {S : SF} {v0 : Nat} (c : CH m h H) (v : HV H) (w : WV H v0 0) (hh : 8 ≤ h) (t : TXc m N S) (sv : SV S) (hN : H.lw < N) : ∃ m2, f_X0_yellows h m = some m2 ∧ CH m2 h (yel S H) ∧ qF [h + 2, 4, 5] m m2 := by
  have h8 := c.2.1.2.1
  obtain ⟨m2, e1, e2, _, _, _, _, e5⟩ := lp_for (f := fun s : qaM × Int32 => b_X0_yellows_2 h s.1 s.2) (yeS S) (fun _ x X => CH x h X ∧ HV X ∧ WV X v0 0 ∧ X.P = H.P ∧ X.lw = H.lw ∧ qF [h + 2, 4, 5] m x) H.P.length (by omega) ⟨c, v, w, rfl, rfl, qF.rf _ _⟩
    (by
      rintro j x X hj ⟨k1, k2, k3, k4, k5, k6⟩
      obtain ⟨x2, g1, g2, g3⟩ := cyS k1 k2 hh (t.F k6 (by simp <;> omega) (by simp <;> omega) (by simp <;> omega)) sv (by rw [k5]; exact hN) (j := j) (by rw [k4]; exact hj)
      have g4 := yeS_V (S := S) k2 k3 (j := j) (by rw [k4]; exact hj)
      exact ⟨x2, g1, g2, g4.1, g4.2.1, g4.2.2.2.trans k4, k5, k6.t2 g3 (fun _ z => z)⟩)
    (by
      rintro x X ⟨k1, k2, k3, k4, k5, k6⟩
      show b_X0_yellows_2 h x (nI H.P.length) = _
      unfold b_X0_yellows_2
      rw [k1.2.1.1, k4]
      ((try simp only [li_0, li_1, li_2, li_3, li_4, li_5, li_6, li_7, li_8, li_9, li_10, li_11, li_12, li_13, li_14, li_15, li_16, li_17, li_18, li_19, li_20, li_30, li_31, li_32, li_33, li_40, li_41, li_42, li_43, li_45, li_48, li_56, li_57, li_59, li_60, li_61, li_64, li_91, li_97, li_99, li_100, li_122, li_150, li_160, li_200, li_201, li_255, li_300, li_303, li_304, li_305, li_306, li_312, li_400, li_500, li_999, li_1003, li_3099, li_99999, li_100000, li_neg]); simp (disch := omega) only [ic_le_f, ic_le_t, ic_lt_f, ic_lt_t, ic_eq_f, ic_eq_t, ic_im, ic_mi, ic_mm_t, ic_mm_f, ic_mlt, ic_mle, ic_ilem, ic_iltm, ic_mmle_t, ic_mmle_f, pu_add, pu_mul, pu_in, pu_ck, pu_let, pu_cl, pu_cpok, pu_inr, Option.bind_some, ite_true, ite_false]))
  exact ⟨m2, e1, e2, e5⟩
-- bits
theorem pu_or (a b : Nat) : nI a ||| nI b = nI (a ||| b) := by
  refine Int32.toBitVec_inj.mp ?_
  rw [Int32.toBitVec_or]
  show BitVec.ofNat 32 a ||| BitVec.ofNat 32 b = BitVec.ofNat 32 (a ||| b)
  rw [BitVec.ofNat_or]
theorem pu_bitor {v i : Nat} (hi : i < 8) : nI v ||| (nI 1 <<< (nI i &&& nI 31)) = nI (v ||| 2 ^ i) := by
  have h : nI 1 <<< (nI i &&& nI 31) = nI (2 ^ i) := by
    have hk : i = 0 ∨ i = 1 ∨ i = 2 ∨ i = 3 ∨ i = 4 ∨ i = 5 ∨ i = 6 ∨ i = 7 := by omega
    rcases hk with rfl | rfl | rfl | rfl | rfl | rfl | rfl | rfl <;> decide
  rw [h, pu_or]
theorem pu_bit {v i : Nat} (hi : i < 8) (hv : v < 2 ^ 31) : (nI v >>> (nI i &&& nI 31)) &&& nI 1 = (if v.testBit i = true then nI 1 else nI 0) := by
  have h : nI v >>> (nI i &&& nI 31) = nI (v / 2 ^ i) := by
    have hk : i = 0 ∨ i = 1 ∨ i = 2 ∨ i = 3 ∨ i = 4 ∨ i = 5 ∨ i = 6 ∨ i = 7 := by omega
    rcases hk with rfl | rfl | rfl | rfl | rfl | rfl | rfl | rfl <;> exact pk_shrN hv _ _ (by decide)
  have hd : v / 2 ^ i ≤ v := Nat.div_le_self _ _
  rw [h, pk_andN (by omega) 1 (by decide), Nat.testBit_eq_decide_div_mod_eq]
  by_cases q : v / 2 ^ i % 2 = 1
  · rw [if_pos (decide_eq_true q)]
    have : v / 2 ^ i % 2 ^ 1 = 1 := q
    rw [this]
  · rw [if_neg (by simpa using q)]
    have : v / 2 ^ i % 2 ^ 1 = 0 := by
      have h1 : v / 2 ^ i % 2 ^ 1 = v / 2 ^ i % 2 := rfl
      omega
    rw [this]
theorem pu_subm {a b : Nat} (h : a < b) : nI a - nI b = nM (b - a) := by
  unfold nM
  rw [← pu_sub (Nat.le_of_lt h)]
  exact (Int32.neg_sub).symm
theorem pu_max0 {a b : Nat} (ha : a < 2 ^ 30) (hb : b < 2 ^ 30) : qa_max (nI 0) (nI a - nI b) = nI (a - b) := by
  unfold qa_max
  rcases Nat.lt_or_ge a b with q | q
  · rw [pu_subm q, if_neg (by rw [Int32.lt_iff_toInt_lt, nM_t (by omega), pu_t (by omega)]; omega), show a - b = 0 by omega]
  · rw [pu_sub q]
    by_cases z : 0 < a - b
    · rw [if_pos (nI_lt z (by omega))]
    · rw [if_neg (nI_nlt (by omega) (by omega)), show a - b = 0 by omega]
theorem cwBy {m : qaM} {h i s : Nat} {H : HS} (c : CH m h H) (v : HV H) (hi : i < 8) (hs : s ≤ 99) : f_X1_wearsBy (h + 1) m (nI i) (nI s) = some (nI (waB (H.A i) s)) := by
  have a0 := (v.av i).1
  have a1 := (v.av i).2.1
  have a2 := (v.av i).2.2.1
  unfold f_X1_wearsBy waB
  simp only [li_0, li_1, li_2, li_3, li_4, li_5, li_6, li_7, li_8, li_9, li_10, li_11, li_12, li_13, li_14, li_15, li_16, li_17, li_18, li_19, li_20, li_30, li_31, li_32, li_33, li_40, li_41, li_42, li_43, li_45, li_48, li_56, li_57, li_59, li_60, li_61, li_64, li_91, li_97, li_99, li_100, li_122, li_150, li_160, li_200, li_201, li_255, li_300, li_303, li_304, li_305, li_306, li_312, li_400, li_500, li_999, li_1003, li_3099, li_99999, li_100000, li_neg]
  rw [cfact c hi (by omega) (by omega), Option.bind_some, cfact c hi (by omega) (by omega), Option.bind_some]
  have hh : ∀ x : Nat, x ≤ 9 → b_X1_wearsBy_24 (h + 1) m (nI i) (nI s) (nI (H.A i 1)) (nI x) = some (nI (if H.A i 0 = 1 then s - H.A i 1 / 2 else if H.A i 0 = 2 then s + x
      else if H.A i 0 = 3 then s - H.A i 1 / 2 else if H.A i 0 = 4 then s + x + 2 else if H.A i 0 = 5 then s / 2 else s)) := by
    intro x hx
    unfold b_X1_wearsBy_24
    simp only [li_0, li_1, li_2, li_3, li_4, li_5, li_6, li_7, li_8, li_9, li_10, li_11, li_12, li_13, li_14, li_15, li_16, li_17, li_18, li_19, li_20, li_30, li_31, li_32, li_33, li_40, li_41, li_42, li_43, li_45, li_48, li_56, li_57, li_59, li_60, li_61, li_64, li_91, li_97, li_99, li_100, li_122, li_150, li_160, li_200, li_201, li_255, li_300, li_303, li_304, li_305, li_306, li_312, li_400, li_500, li_999, li_1003, li_3099, li_99999, li_100000, li_neg]
    rw [cfact c hi (by omega) (by omega), Option.bind_some]
    by_cases q1 : H.A i 0 = 1
    · rw [q1]
      ((try simp only [b_X1_wearsBy_68, li_0, li_1, li_2, li_3, li_4, li_5, li_6, li_7, li_8, li_9, li_10, li_11, li_12, li_13, li_14, li_15, li_16, li_17, li_18, li_19, li_20, li_30, li_31, li_32, li_33, li_40, li_41, li_42, li_43, li_45, li_48, li_56, li_57, li_59, li_60, li_61, li_64, li_91, li_97, li_99, li_100, li_122, li_150, li_160, li_200, li_201, li_255, li_300, li_303, li_304, li_305, li_306, li_312, li_400, li_500, li_999, li_1003, li_3099, li_99999, li_100000, li_neg]); simp (disch := omega) only [b_X1_wearsBy_68, ic_le_f, ic_le_t, ic_lt_f, ic_lt_t, ic_eq_f, ic_eq_t, ic_im, ic_mi, ic_mm_t, ic_mm_f, ic_mlt, ic_mle, ic_ilem, ic_iltm, ic_mmle_t, ic_mmle_f, pu_add, pu_mul, pu_in, pu_ck, pu_let, pu_cl, pu_cpok, pu_inr, Option.bind_some, ite_true, ite_false])
      rw [pk_div (by omega) (by omega) (by omega), pu_max0 (by omega) (by omega)]
    rw [if_neg q1]
    by_cases q2 : H.A i 0 = 2
    · rw [q2]
      ((try simp only [li_0, li_1, li_2, li_3, li_4, li_5, li_6, li_7, li_8, li_9, li_10, li_11, li_12, li_13, li_14, li_15, li_16, li_17, li_18, li_19, li_20, li_30, li_31, li_32, li_33, li_40, li_41, li_42, li_43, li_45, li_48, li_56, li_57, li_59, li_60, li_61, li_64, li_91, li_97, li_99, li_100, li_122, li_150, li_160, li_200, li_201, li_255, li_300, li_303, li_304, li_305, li_306, li_312, li_400, li_500, li_999, li_1003, li_3099, li_99999, li_100000, li_neg]); simp (disch := omega) only [ic_le_f, ic_le_t, ic_lt_f, ic_lt_t, ic_eq_f, ic_eq_t, ic_im, ic_mi, ic_mm_t, ic_mm_f, ic_mlt, ic_mle, ic_ilem, ic_iltm, ic_mmle_t, ic_mmle_f, pu_add, pu_mul, pu_in, pu_ck, pu_let, pu_cl, pu_cpok, pu_inr, Option.bind_some, ite_true, ite_false])
    rw [if_neg q2]
    by_cases q3 : H.A i 0 = 3
    · rw [q3]
      ((try simp only [b_X1_wearsBy_68, li_0, li_1, li_2, li_3, li_4, li_5, li_6, li_7, li_8, li_9, li_10, li_11, li_12, li_13, li_14, li_15, li_16, li_17, li_18, li_19, li_20, li_30, li_31, li_32, li_33, li_40, li_41, li_42, li_43, li_45, li_48, li_56, li_57, li_59, li_60, li_61, li_64, li_91, li_97, li_99, li_100, li_122, li_150, li_160, li_200, li_201, li_255, li_300, li_303, li_304, li_305, li_306, li_312, li_400, li_500, li_999, li_1003, li_3099, li_99999, li_100000, li_neg]); simp (disch := omega) only [b_X1_wearsBy_68, ic_le_f, ic_le_t, ic_lt_f, ic_lt_t, ic_eq_f, ic_eq_t, ic_im, ic_mi, ic_mm_t, ic_mm_f, ic_mlt, ic_mle, ic_ilem, ic_iltm, ic_mmle_t, ic_mmle_f, pu_add, pu_mul, pu_in, pu_ck, pu_let, pu_cl, pu_cpok, pu_inr, Option.bind_some, ite_true, ite_false])
      rw [pk_div (by omega) (by omega) (by omega), pu_max0 (by omega) (by omega)]
    rw [if_neg q3]
    by_cases q4 : H.A i 0 = 4
    · rw [q4]
      ((try simp only [li_0, li_1, li_2, li_3, li_4, li_5, li_6, li_7, li_8, li_9, li_10, li_11, li_12, li_13, li_14, li_15, li_16, li_17, li_18, li_19, li_20, li_30, li_31, li_32, li_33, li_40, li_41, li_42, li_43, li_45, li_48, li_56, li_57, li_59, li_60, li_61, li_64, li_91, li_97, li_99, li_100, li_122, li_150, li_160, li_200, li_201, li_255, li_300, li_303, li_304, li_305, li_306, li_312, li_400, li_500, li_999, li_1003, li_3099, li_99999, li_100000, li_neg]); simp (disch := omega) only [ic_le_f, ic_le_t, ic_lt_f, ic_lt_t, ic_eq_f, ic_eq_t, ic_im, ic_mi, ic_mm_t, ic_mm_f, ic_mlt, ic_mle, ic_ilem, ic_iltm, ic_mmle_t, ic_mmle_f, pu_add, pu_mul, pu_in, pu_ck, pu_let, pu_cl, pu_cpok, pu_inr, Option.bind_some, ite_true, ite_false])
    rw [if_neg q4]
    by_cases q5 : H.A i 0 = 5
    · rw [q5]
      ((try simp only [li_0, li_1, li_2, li_3, li_4, li_5, li_6, li_7, li_8, li_9, li_10, li_11, li_12, li_13, li_14, li_15, li_16, li_17, li_18, li_19, li_20, li_30, li_31, li_32, li_33, li_40, li_41, li_42, li_43, li_45, li_48, li_56, li_57, li_59, li_60, li_61, li_64, li_91, li_97, li_99, li_100, li_122, li_150, li_160, li_200, li_201, li_255, li_300, li_303, li_304, li_305, li_306, li_312, li_400, li_500, li_999, li_1003, li_3099, li_99999, li_100000, li_neg]); simp (disch := omega) only [ic_le_f, ic_le_t, ic_lt_f, ic_lt_t, ic_eq_f, ic_eq_t, ic_im, ic_mi, ic_mm_t, ic_mm_f, ic_mlt, ic_mle, ic_ilem, ic_iltm, ic_mmle_t, ic_mmle_f, pu_add, pu_mul, pu_in, pu_ck, pu_let, pu_cl, pu_cpok, pu_inr, Option.bind_some, ite_true, ite_false])
      rw [pk_div (by omega) (by omega) (by omega)]
    rw [if_neg q5]
    ((try simp only [li_0, li_1, li_2, li_3, li_4, li_5, li_6, li_7, li_8, li_9, li_10, li_11, li_12, li_13, li_14, li_15, li_16, li_17, li_18, li_19, li_20, li_30, li_31, li_32, li_33, li_40, li_41, li_42, li_43, li_45, li_48, li_56, li_57, li_59, li_60, li_61, li_64, li_91, li_97, li_99, li_100, li_122, li_150, li_160, li_200, li_201, li_255, li_300, li_303, li_304, li_305, li_306, li_312, li_400, li_500, li_999, li_1003, li_3099, li_99999, li_100000, li_neg]); simp (disch := omega) only [ic_le_f, ic_le_t, ic_lt_f, ic_lt_t, ic_eq_f, ic_eq_t, ic_im, ic_mi, ic_mm_t, ic_mm_f, ic_mlt, ic_mle, ic_ilem, ic_iltm, ic_mmle_t, ic_mmle_f, pu_add, pu_mul, pu_in, pu_ck, pu_let, pu_cl, pu_cpok, pu_inr, Option.bind_some, ite_true, ite_false])
  by_cases q : H.A i 2 ≤ 200
  · ((try simp only [if_pos q, li_0, li_1, li_2, li_3, li_4, li_5, li_6, li_7, li_8, li_9, li_10, li_11, li_12, li_13, li_14, li_15, li_16, li_17, li_18, li_19, li_20, li_30, li_31, li_32, li_33, li_40, li_41, li_42, li_43, li_45, li_48, li_56, li_57, li_59, li_60, li_61, li_64, li_91, li_97, li_99, li_100, li_122, li_150, li_160, li_200, li_201, li_255, li_300, li_303, li_304, li_305, li_306, li_312, li_400, li_500, li_999, li_1003, li_3099, li_99999, li_100000, li_neg]); simp (disch := omega) only [if_pos q, ic_le_f, ic_le_t, ic_lt_f, ic_lt_t, ic_eq_f, ic_eq_t, ic_im, ic_mi, ic_mm_t, ic_mm_f, ic_mlt, ic_mle, ic_ilem, ic_iltm, ic_mmle_t, ic_mmle_f, pu_add, pu_mul, pu_in, pu_ck, pu_let, pu_cl, pu_cpok, pu_inr, Option.bind_some, ite_true, ite_false])
    rw [hh 0 (by omega)]
  · ((try simp only [if_neg q, li_0, li_1, li_2, li_3, li_4, li_5, li_6, li_7, li_8, li_9, li_10, li_11, li_12, li_13, li_14, li_15, li_16, li_17, li_18, li_19, li_20, li_30, li_31, li_32, li_33, li_40, li_41, li_42, li_43, li_45, li_48, li_56, li_57, li_59, li_60, li_61, li_64, li_91, li_97, li_99, li_100, li_122, li_150, li_160, li_200, li_201, li_255, li_300, li_303, li_304, li_305, li_306, li_312, li_400, li_500, li_999, li_1003, li_3099, li_99999, li_100000, li_neg]); simp (disch := omega) only [if_neg q, ic_le_f, ic_le_t, ic_lt_f, ic_lt_t, ic_eq_f, ic_eq_t, ic_im, ic_mi, ic_mm_t, ic_mm_f, ic_mlt, ic_mle, ic_ilem, ic_iltm, ic_mmle_t, ic_mmle_f, pu_add, pu_mul, pu_in, pu_ck, pu_let, pu_cl, pu_cpok, pu_inr, Option.bind_some, ite_true, ite_false])
    rw [hh _ a1]
theorem clasts {m : qaM} {h i : Nat} {H : HS} (c : CH m h H) (v : AV (H.A i)) (hi : i < 8) : f_X1_lasts (h + 1) m (nI i) = some (nI (lasA (H.A i))) := by
  have a0 := v.1
  have a1 := v.2.1
  unfold f_X1_lasts lasA
  simp only [li_0, li_1, li_2, li_3, li_4, li_5, li_6, li_7, li_8, li_9, li_10, li_11, li_12, li_13, li_14, li_15, li_16, li_17, li_18, li_19, li_20, li_30, li_31, li_32, li_33, li_40, li_41, li_42, li_43, li_45, li_48, li_56, li_57, li_59, li_60, li_61, li_64, li_91, li_97, li_99, li_100, li_122, li_150, li_160, li_200, li_201, li_255, li_300, li_303, li_304, li_305, li_306, li_312, li_400, li_500, li_999, li_1003, li_3099, li_99999, li_100000, li_neg]
  rw [cfact c hi (by omega) (by omega), Option.bind_some, cfact c hi (by omega) (by omega), Option.bind_some]
  by_cases q2 : H.A i 0 = 2
  · rw [if_pos q2, q2]
    ((try simp only [li_0, li_1, li_2, li_3, li_4, li_5, li_6, li_7, li_8, li_9, li_10, li_11, li_12, li_13, li_14, li_15, li_16, li_17, li_18, li_19, li_20, li_30, li_31, li_32, li_33, li_40, li_41, li_42, li_43, li_45, li_48, li_56, li_57, li_59, li_60, li_61, li_64, li_91, li_97, li_99, li_100, li_122, li_150, li_160, li_200, li_201, li_255, li_300, li_303, li_304, li_305, li_306, li_312, li_400, li_500, li_999, li_1003, li_3099, li_99999, li_100000, li_neg]); simp (disch := omega) only [ic_le_f, ic_le_t, ic_lt_f, ic_lt_t, ic_eq_f, ic_eq_t, ic_im, ic_mi, ic_mm_t, ic_mm_f, ic_mlt, ic_mle, ic_ilem, ic_iltm, ic_mmle_t, ic_mmle_f, pu_add, pu_mul, pu_in, pu_ck, pu_let, pu_cl, pu_cpok, pu_inr, Option.bind_some, ite_true, ite_false])
    rw [pu_sub (by omega)]
  rw [if_neg q2]
  by_cases q3 : H.A i 0 = 3
  · rw [if_pos q3, q3]
    ((try simp only [li_0, li_1, li_2, li_3, li_4, li_5, li_6, li_7, li_8, li_9, li_10, li_11, li_12, li_13, li_14, li_15, li_16, li_17, li_18, li_19, li_20, li_30, li_31, li_32, li_33, li_40, li_41, li_42, li_43, li_45, li_48, li_56, li_57, li_59, li_60, li_61, li_64, li_91, li_97, li_99, li_100, li_122, li_150, li_160, li_200, li_201, li_255, li_300, li_303, li_304, li_305, li_306, li_312, li_400, li_500, li_999, li_1003, li_3099, li_99999, li_100000, li_neg]); simp (disch := omega) only [ic_le_f, ic_le_t, ic_lt_f, ic_lt_t, ic_eq_f, ic_eq_t, ic_im, ic_mi, ic_mm_t, ic_mm_f, ic_mlt, ic_mle, ic_ilem, ic_iltm, ic_mmle_t, ic_mmle_f, pu_add, pu_mul, pu_in, pu_ck, pu_let, pu_cl, pu_cpok, pu_inr, Option.bind_some, ite_true, ite_false])
  rw [if_neg q3]
  by_cases q4 : H.A i 0 = 4
  · rw [if_pos q4, q4]
    ((try simp only [li_0, li_1, li_2, li_3, li_4, li_5, li_6, li_7, li_8, li_9, li_10, li_11, li_12, li_13, li_14, li_15, li_16, li_17, li_18, li_19, li_20, li_30, li_31, li_32, li_33, li_40, li_41, li_42, li_43, li_45, li_48, li_56, li_57, li_59, li_60, li_61, li_64, li_91, li_97, li_99, li_100, li_122, li_150, li_160, li_200, li_201, li_255, li_300, li_303, li_304, li_305, li_306, li_312, li_400, li_500, li_999, li_1003, li_3099, li_99999, li_100000, li_neg]); simp (disch := omega) only [ic_le_f, ic_le_t, ic_lt_f, ic_lt_t, ic_eq_f, ic_eq_t, ic_im, ic_mi, ic_mm_t, ic_mm_f, ic_mlt, ic_mle, ic_ilem, ic_iltm, ic_mmle_t, ic_mmle_f, pu_add, pu_mul, pu_in, pu_ck, pu_let, pu_cl, pu_cpok, pu_inr, Option.bind_some, ite_true, ite_false])
    rw [pu_sub (by omega)]
  rw [if_neg q4]
  by_cases q5 : H.A i 0 = 5
  · rw [if_pos q5, q5]
    ((try simp only [li_0, li_1, li_2, li_3, li_4, li_5, li_6, li_7, li_8, li_9, li_10, li_11, li_12, li_13, li_14, li_15, li_16, li_17, li_18, li_19, li_20, li_30, li_31, li_32, li_33, li_40, li_41, li_42, li_43, li_45, li_48, li_56, li_57, li_59, li_60, li_61, li_64, li_91, li_97, li_99, li_100, li_122, li_150, li_160, li_200, li_201, li_255, li_300, li_303, li_304, li_305, li_306, li_312, li_400, li_500, li_999, li_1003, li_3099, li_99999, li_100000, li_neg]); simp (disch := omega) only [ic_le_f, ic_le_t, ic_lt_f, ic_lt_t, ic_eq_f, ic_eq_t, ic_im, ic_mi, ic_mm_t, ic_mm_f, ic_mlt, ic_mle, ic_ilem, ic_iltm, ic_mmle_t, ic_mmle_f, pu_add, pu_mul, pu_in, pu_ck, pu_let, pu_cl, pu_cpok, pu_inr, Option.bind_some, ite_true, ite_false])
  rw [if_neg q5]
  ((try simp only [li_0, li_1, li_2, li_3, li_4, li_5, li_6, li_7, li_8, li_9, li_10, li_11, li_12, li_13, li_14, li_15, li_16, li_17, li_18, li_19, li_20, li_30, li_31, li_32, li_33, li_40, li_41, li_42, li_43, li_45, li_48, li_56, li_57, li_59, li_60, li_61, li_64, li_91, li_97, li_99, li_100, li_122, li_150, li_160, li_200, li_201, li_255, li_300, li_303, li_304, li_305, li_306, li_312, li_400, li_500, li_999, li_1003, li_3099, li_99999, li_100000, li_neg]); simp (disch := omega) only [ic_le_f, ic_le_t, ic_lt_f, ic_lt_t, ic_eq_f, ic_eq_t, ic_im, ic_mi, ic_mm_t, ic_mm_f, ic_mlt, ic_mle, ic_ilem, ic_iltm, ic_mmle_t, ic_mmle_f, pu_add, pu_mul, pu_in, pu_ck, pu_let, pu_cl, pu_cpok, pu_inr, Option.bind_some, ite_true, ite_false])
