/-! PURE: the class's Linen and Pile -/
def LA (m : qaM) (c n : Nat) (F : Nat → Nat → Int32) : Prop := m c 0 = nI n ∧ n ≤ 8 ∧ ∀ i k : Nat, i < 8 → k < 7 → m (c + 1) (i * 7 + k) = F i k
def PA (m : qaM) (c : Nat) (P : List Nat) : Prop := m c 0 = nI P.length ∧ P.length ≤ 8 ∧ ∀ j : Nat, j < P.length → m (c + 1) j = nI (P.getD j 0)
/-- one fact becomes another -/
def fU (F : Nat → Nat → Int32) (i k : Nat) (v : Int32) : Nat → Nat → Int32 := fun a b => if a = i ∧ b = k then v else F a b
theorem LA.F {m m2 : qaM} {c n : Nat} {F : Nat → Nat → Int32} {l : List Nat} (h : LA m c n F) (hf : qF l m m2) (h1 : c ∉ l) (h2 : c + 1 ∉ l) : LA m2 c n F := by
  unfold LA
  rw [hf c h1, hf (c + 1) h2]
  exact h
theorem PA.F {m m2 : qaM} {c : Nat} {P : List Nat} {l : List Nat} (h : PA m c P) (hf : qF l m m2) (h1 : c ∉ l) (h2 : c + 1 ∉ l) : PA m2 c P := by
  unfold PA
  rw [hf c h1, hf (c + 1) h2]
  exact h
theorem fact_ok {m : qaM} {c n i k : Nat} {F : Nat → Nat → Int32} (h : LA m c n F) (hi : i < 8) (hk : k < 7) : f_X1_fact c m (nI i) (nI k) = some (F i k) := by
  unfold f_X1_fact
  ((try simp only [li_0, li_1, li_2, li_3, li_4, li_5, li_6, li_7, li_8, li_9, li_10, li_11, li_12, li_13, li_14, li_15, li_16, li_17, li_18, li_19, li_20, li_30, li_31, li_32, li_33, li_40, li_41, li_42, li_43, li_45, li_48, li_56, li_57, li_59, li_60, li_61, li_64, li_91, li_97, li_99, li_100, li_122, li_150, li_160, li_200, li_201, li_255, li_300, li_303, li_304, li_305, li_306, li_312, li_400, li_500, li_999, li_1003, li_3099, li_99999, li_100000, li_neg]); simp (disch := omega) only [ic_le_f, ic_le_t, ic_lt_f, ic_lt_t, ic_eq_f, ic_eq_t, ic_im, ic_mi, ic_mm_t, ic_mm_f, ic_mlt, ic_mle, ic_ilem, ic_iltm, ic_mmle_t, ic_mmle_f, pu_add, pu_mul, pu_in, pu_ck, pu_let, pu_cl, pu_cpok, pu_inr, Option.bind_some, ite_true, ite_false])
  rw [h.2.2 i k hi hk]
theorem notes_ok {m : qaM} {c n i k : Nat} {F : Nat → Nat → Int32} {v : Int32} (h : LA m c n F) (hi : i < 8) (hk : k < 7) : ∃ m2, f_X1_notes c m (nI i) (nI k) v = some m2 ∧ LA m2 c n (fU F i k v) ∧ qF [c + 1] m m2 := by
  refine ⟨qa_st m (c + 1) (i * 7 + k) v, ?_, ⟨?_, h.2.1, fun a b ha hb => ?_⟩, qF.st m _ _ _⟩
  · unfold f_X1_notes
    ((try simp only [li_0, li_1, li_2, li_3, li_4, li_5, li_6, li_7, li_8, li_9, li_10, li_11, li_12, li_13, li_14, li_15, li_16, li_17, li_18, li_19, li_20, li_30, li_31, li_32, li_33, li_40, li_41, li_42, li_43, li_45, li_48, li_56, li_57, li_59, li_60, li_61, li_64, li_91, li_97, li_99, li_100, li_122, li_150, li_160, li_200, li_201, li_255, li_300, li_303, li_304, li_305, li_306, li_312, li_400, li_500, li_999, li_1003, li_3099, li_99999, li_100000, li_neg]); simp (disch := omega) only [ic_le_f, ic_le_t, ic_lt_f, ic_lt_t, ic_eq_f, ic_eq_t, ic_im, ic_mi, ic_mm_t, ic_mm_f, ic_mlt, ic_mle, ic_ilem, ic_iltm, ic_mmle_t, ic_mmle_f, pu_add, pu_mul, pu_in, pu_ck, pu_let, pu_cl, pu_cpok, pu_inr, Option.bind_some, ite_true, ite_false])
  · rw [st_n (by omega)]
    exact h.1
  · rw [st_s]
    unfold fU
    by_cases hq : a = i ∧ b = k
    · rw [if_pos hq, hq.1, hq.2, up_s]
    · rw [if_neg hq, up_n (by omega)]
      exact h.2.2 a b ha hb
theorem isCloths_ok {m : qaM} {c n i : Nat} {F : Nat → Nat → Int32} (h : LA m c n F) (hi : i < 8) : f_X1_isCloths c m (nI i) = some (if F i 6 = nM 1 then nI 1 else nI 0) := by
  unfold f_X1_isCloths
  simp only [li_0, li_1, li_2, li_3, li_4, li_5, li_6, li_7, li_8, li_9, li_10, li_11, li_12, li_13, li_14, li_15, li_16, li_17, li_18, li_19, li_20, li_30, li_31, li_32, li_33, li_40, li_41, li_42, li_43, li_45, li_48, li_56, li_57, li_59, li_60, li_61, li_64, li_91, li_97, li_99, li_100, li_122, li_150, li_160, li_200, li_201, li_255, li_300, li_303, li_304, li_305, li_306, li_312, li_400, li_500, li_999, li_1003, li_3099, li_99999, li_100000, li_neg]
  rw [fact_ok h hi (by omega), Option.bind_some]
  by_cases hq : F i 6 = nM 1
  · rw [if_pos hq, if_pos hq]
  · rw [if_neg hq, if_neg hq]
/-- how many are no CLOTHS -/
def lfN (F : Nat → Nat → Int32) : Nat → Nat
  | 0 => 0
  | n + 1 => lfN F n + (if F n 6 = nM 1 then 0 else 1)
theorem lfN_le (F : Nat → Nat → Int32) (n : Nat) : lfN F n ≤ n := by
  induction n with
  | zero => exact Nat.le_refl _
  | succ n ih =>
    unfold lfN
    split <;> omega
theorem left_ok {m : qaM} {c n : Nat} {F : Nat → Nat → Int32} (h : LA m c n F) : f_X1_left c m = some (nI (lfN F n)) := by
  have hn := h.2.1
  obtain ⟨r, h1, h2⟩ := lp_at (f := fun s : Int32 × Int32 => b_X1_left_4 c m s.1 s.2) (fun j s => s = (nI (lfN F j), nI j)) (fun r => r = nI (lfN F n)) n (s := ((0 : Int32), (0 : Int32))) rfl (by omega) (by
    rintro j s hj rfl
    unfold b_X1_left_4
    rw [h.1]
    rcases Nat.lt_or_ge j n with q | q
    · refine Or.inl ⟨_, ?_, q, rfl⟩
      have hl := lfN_le F j
      ((try simp only [li_0, li_1, li_2, li_3, li_4, li_5, li_6, li_7, li_8, li_9, li_10, li_11, li_12, li_13, li_14, li_15, li_16, li_17, li_18, li_19, li_20, li_30, li_31, li_32, li_33, li_40, li_41, li_42, li_43, li_45, li_48, li_56, li_57, li_59, li_60, li_61, li_64, li_91, li_97, li_99, li_100, li_122, li_150, li_160, li_200, li_201, li_255, li_300, li_303, li_304, li_305, li_306, li_312, li_400, li_500, li_999, li_1003, li_3099, li_99999, li_100000, li_neg]); simp (disch := omega) only [ic_le_f, ic_le_t, ic_lt_f, ic_lt_t, ic_eq_f, ic_eq_t, ic_im, ic_mi, ic_mm_t, ic_mm_f, ic_mlt, ic_mle, ic_ilem, ic_iltm, ic_mmle_t, ic_mmle_f, pu_add, pu_mul, pu_in, pu_ck, pu_let, pu_cl, pu_cpok, pu_inr, Option.bind_some, ite_true, ite_false])
      rw [isCloths_ok h (by omega), Option.bind_some]
      by_cases hq : F j 6 = nM 1
      · rw [if_pos hq]
        ((try simp only [lfN, if_pos hq, b_X1_left_26, li_0, li_1, li_2, li_3, li_4, li_5, li_6, li_7, li_8, li_9, li_10, li_11, li_12, li_13, li_14, li_15, li_16, li_17, li_18, li_19, li_20, li_30, li_31, li_32, li_33, li_40, li_41, li_42, li_43, li_45, li_48, li_56, li_57, li_59, li_60, li_61, li_64, li_91, li_97, li_99, li_100, li_122, li_150, li_160, li_200, li_201, li_255, li_300, li_303, li_304, li_305, li_306, li_312, li_400, li_500, li_999, li_1003, li_3099, li_99999, li_100000, li_neg]); simp (disch := omega) only [lfN, if_pos hq, b_X1_left_26, ic_le_f, ic_le_t, ic_lt_f, ic_lt_t, ic_eq_f, ic_eq_t, ic_im, ic_mi, ic_mm_t, ic_mm_f, ic_mlt, ic_mle, ic_ilem, ic_iltm, ic_mmle_t, ic_mmle_f, pu_add, pu_mul, pu_in, pu_ck, pu_let, pu_cl, pu_cpok, pu_inr, Option.bind_some, ite_true, ite_false])
      · rw [if_neg hq]
        ((try simp only [lfN, if_neg hq, b_X1_left_26, li_0, li_1, li_2, li_3, li_4, li_5, li_6, li_7, li_8, li_9, li_10, li_11, li_12, li_13, li_14, li_15, li_16, li_17, li_18, li_19, li_20, li_30, li_31, li_32, li_33, li_40, li_41, li_42, li_43, li_45, li_48, li_56, li_57, li_59, li_60, li_61, li_64, li_91, li_97, li_99, li_100, li_122, li_150, li_160, li_200, li_201, li_255, li_300, li_303, li_304, li_305, li_306, li_312, li_400, li_500, li_999, li_1003, li_3099, li_99999, li_100000, li_neg]); simp (disch := omega) only [lfN, if_neg hq, b_X1_left_26, ic_le_f, ic_le_t, ic_lt_f, ic_lt_t, ic_eq_f, ic_eq_t, ic_im, ic_mi, ic_mm_t, ic_mm_f, ic_mlt, ic_mle, ic_ilem, ic_iltm, ic_mmle_t, ic_mmle_f, pu_add, pu_mul, pu_in, pu_ck, pu_let, pu_cl, pu_cpok, pu_inr, Option.bind_some, ite_true, ite_false])
    · have : j = n := by omega
      subst this
      refine Or.inr ⟨_, ?_, rfl⟩
      ((try simp only [li_0, li_1, li_2, li_3, li_4, li_5, li_6, li_7, li_8, li_9, li_10, li_11, li_12, li_13, li_14, li_15, li_16, li_17, li_18, li_19, li_20, li_30, li_31, li_32, li_33, li_40, li_41, li_42, li_43, li_45, li_48, li_56, li_57, li_59, li_60, li_61, li_64, li_91, li_97, li_99, li_100, li_122, li_150, li_160, li_200, li_201, li_255, li_300, li_303, li_304, li_305, li_306, li_312, li_400, li_500, li_999, li_1003, li_3099, li_99999, li_100000, li_neg]); simp (disch := omega) only [ic_le_f, ic_le_t, ic_lt_f, ic_lt_t, ic_eq_f, ic_eq_t, ic_im, ic_mi, ic_mm_t, ic_mm_f, ic_mlt, ic_mle, ic_ilem, ic_iltm, ic_mmle_t, ic_mmle_f, pu_add, pu_mul, pu_in, pu_ck, pu_let, pu_cl, pu_cpok, pu_inr, Option.bind_some, ite_true, ite_false]))
  rw [f_X1_left, lp_X1_left_4, h1, h2]
theorem at_ok {m : qaM} {c j : Nat} {P : List Nat} (h : PA m c P) (hj : j < P.length) : f_X2_at c m (nI j) = some (nI (P.getD j 0)) := by
  have := h.2.1
  unfold f_X2_at
  rw [h.1]
  ((try simp only [li_0, li_1, li_2, li_3, li_4, li_5, li_6, li_7, li_8, li_9, li_10, li_11, li_12, li_13, li_14, li_15, li_16, li_17, li_18, li_19, li_20, li_30, li_31, li_32, li_33, li_40, li_41, li_42, li_43, li_45, li_48, li_56, li_57, li_59, li_60, li_61, li_64, li_91, li_97, li_99, li_100, li_122, li_150, li_160, li_200, li_201, li_255, li_300, li_303, li_304, li_305, li_306, li_312, li_400, li_500, li_999, li_1003, li_3099, li_99999, li_100000, li_neg]); simp (disch := omega) only [ic_le_f, ic_le_t, ic_lt_f, ic_lt_t, ic_eq_f, ic_eq_t, ic_im, ic_mi, ic_mm_t, ic_mm_f, ic_mlt, ic_mle, ic_ilem, ic_iltm, ic_mmle_t, ic_mmle_f, pu_add, pu_mul, pu_in, pu_ck, pu_let, pu_cl, pu_cpok, pu_inr, Option.bind_some, ite_true, ite_false])
  rw [h.2.2 j hj]
theorem at_out {m : qaM} {c j : Nat} {P : List Nat} (h : PA m c P) (hj : P.length ≤ j) (hb : j < 2 ^ 31) : f_X2_at c m (nI j) = some (nM 1) := by
  have := h.2.1
  unfold f_X2_at
  rw [h.1]
  ((try simp only [li_0, li_1, li_2, li_3, li_4, li_5, li_6, li_7, li_8, li_9, li_10, li_11, li_12, li_13, li_14, li_15, li_16, li_17, li_18, li_19, li_20, li_30, li_31, li_32, li_33, li_40, li_41, li_42, li_43, li_45, li_48, li_56, li_57, li_59, li_60, li_61, li_64, li_91, li_97, li_99, li_100, li_122, li_150, li_160, li_200, li_201, li_255, li_300, li_303, li_304, li_305, li_306, li_312, li_400, li_500, li_999, li_1003, li_3099, li_99999, li_100000, li_neg]); simp (disch := omega) only [ic_le_f, ic_le_t, ic_lt_f, ic_lt_t, ic_eq_f, ic_eq_t, ic_im, ic_mi, ic_mm_t, ic_mm_f, ic_mlt, ic_mle, ic_ilem, ic_iltm, ic_mmle_t, ic_mmle_f, pu_add, pu_mul, pu_in, pu_ck, pu_let, pu_cl, pu_cpok, pu_inr, Option.bind_some, ite_true, ite_false])
theorem at_m1 {m : qaM} {c : Nat} : f_X2_at c m (nM 1) = some (nM 1) := by
  unfold f_X2_at
  ((try simp only [li_0, li_1, li_2, li_3, li_4, li_5, li_6, li_7, li_8, li_9, li_10, li_11, li_12, li_13, li_14, li_15, li_16, li_17, li_18, li_19, li_20, li_30, li_31, li_32, li_33, li_40, li_41, li_42, li_43, li_45, li_48, li_56, li_57, li_59, li_60, li_61, li_64, li_91, li_97, li_99, li_100, li_122, li_150, li_160, li_200, li_201, li_255, li_300, li_303, li_304, li_305, li_306, li_312, li_400, li_500, li_999, li_1003, li_3099, li_99999, li_100000, li_neg]); simp (disch := omega) only [ic_le_f, ic_le_t, ic_lt_f, ic_lt_t, ic_eq_f, ic_eq_t, ic_im, ic_mi, ic_mm_t, ic_mm_f, ic_mlt, ic_mle, ic_ilem, ic_iltm, ic_mmle_t, ic_mmle_f, pu_add, pu_mul, pu_in, pu_ck, pu_let, pu_cl, pu_cpok, pu_inr, Option.bind_some, ite_true, ite_false])
theorem isPlace_ok {m : qaM} {c j : Nat} {P : List Nat} (h : PA m c P) (hb : j < 2 ^ 31) : f_X2_isPlace c m (nI j) = some (if j < P.length then nI 1 else nI 0) := by
  have := h.2.1
  by_cases hj : j < P.length
  · rw [if_pos hj]
    have h8 : j < 8 := by omega
    unfold f_X2_isPlace
    rw [h.1]
    ((try simp only [li_0, li_1, li_2, li_3, li_4, li_5, li_6, li_7, li_8, li_9, li_10, li_11, li_12, li_13, li_14, li_15, li_16, li_17, li_18, li_19, li_20, li_30, li_31, li_32, li_33, li_40, li_41, li_42, li_43, li_45, li_48, li_56, li_57, li_59, li_60, li_61, li_64, li_91, li_97, li_99, li_100, li_122, li_150, li_160, li_200, li_201, li_255, li_300, li_303, li_304, li_305, li_306, li_312, li_400, li_500, li_999, li_1003, li_3099, li_99999, li_100000, li_neg]); simp (disch := omega) only [ic_le_f, ic_le_t, ic_lt_f, ic_lt_t, ic_eq_f, ic_eq_t, ic_im, ic_mi, ic_mm_t, ic_mm_f, ic_mlt, ic_mle, ic_ilem, ic_iltm, ic_mmle_t, ic_mmle_f, pu_add, pu_mul, pu_in, pu_ck, pu_let, pu_cl, pu_cpok, pu_inr, Option.bind_some, ite_true, ite_false])
  · rw [if_neg hj]
    unfold f_X2_isPlace
    rw [h.1]
    ((try simp only [li_0, li_1, li_2, li_3, li_4, li_5, li_6, li_7, li_8, li_9, li_10, li_11, li_12, li_13, li_14, li_15, li_16, li_17, li_18, li_19, li_20, li_30, li_31, li_32, li_33, li_40, li_41, li_42, li_43, li_45, li_48, li_56, li_57, li_59, li_60, li_61, li_64, li_91, li_97, li_99, li_100, li_122, li_150, li_160, li_200, li_201, li_255, li_300, li_303, li_304, li_305, li_306, li_312, li_400, li_500, li_999, li_1003, li_3099, li_99999, li_100000, li_neg]); simp (disch := omega) only [ic_le_f, ic_le_t, ic_lt_f, ic_lt_t, ic_eq_f, ic_eq_t, ic_im, ic_mi, ic_mm_t, ic_mm_f, ic_mlt, ic_mle, ic_ilem, ic_iltm, ic_mmle_t, ic_mmle_f, pu_add, pu_mul, pu_in, pu_ck, pu_let, pu_cl, pu_cpok, pu_inr, Option.bind_some, ite_true, ite_false])
/-- lists: one in at a place, one out of a place -/
def insA (P : List Nat) (k i : Nat) : List Nat := P.take k ++ i :: P.drop k
def rmA (P : List Nat) (k : Nat) : List Nat := P.take k ++ P.drop (k + 1)
theorem insA_len {P : List Nat} {k i : Nat} (h : k ≤ P.length) : (insA P k i).length = P.length + 1 := by
  simp [insA]
  omega
theorem rmA_len {P : List Nat} {k : Nat} (h : k < P.length) : (rmA P k).length = P.length - 1 := by
  simp [rmA]
  omega
theorem insA_lt {P : List Nat} {k i j : Nat} (h : k ≤ P.length) (hj : j < k) : (insA P k i).getD j 0 = P.getD j 0 := by
  simp only [insA, List.getD_eq_getElem?_getD]
  rw [List.getElem?_append_left (by simp; omega), List.getElem?_take_of_lt hj]
theorem insA_eq {P : List Nat} {k i : Nat} (h : k ≤ P.length) : (insA P k i).getD k 0 = i := by
  simp only [insA, List.getD_eq_getElem?_getD]
  rw [List.getElem?_append_right (by simp; omega)]
  simp [Nat.min_eq_left h]
theorem insA_gt {P : List Nat} {k i j : Nat} (h : k ≤ P.length) (hj : k < j) : (insA P k i).getD j 0 = P.getD (j - 1) 0 := by
  simp only [insA, List.getD_eq_getElem?_getD]
  rw [List.getElem?_append_right (by simp; omega)]
  simp only [List.length_take, Nat.min_eq_left h]
  obtain ⟨d, rfl⟩ : ∃ d, j = k + 1 + d := ⟨j - (k + 1), by omega⟩
  rw [show k + 1 + d - k = d + 1 by omega, List.getElem?_cons_succ, List.getElem?_drop, show k + 1 + d - 1 = k + d by omega]
theorem rmA_lt {P : List Nat} {k j : Nat} (h : k < P.length) (hj : j < k) : (rmA P k).getD j 0 = P.getD j 0 := by
  simp only [rmA, List.getD_eq_getElem?_getD]
  rw [List.getElem?_append_left (by simp; omega), List.getElem?_take_of_lt hj]
theorem rmA_ge {P : List Nat} {k j : Nat} (h : k < P.length) (hj : k ≤ j) : (rmA P k).getD j 0 = P.getD (j + 1) 0 := by
  simp only [rmA, List.getD_eq_getElem?_getD]
  rw [List.getElem?_append_right (by simp; omega)]
  simp only [List.length_take, Nat.min_eq_left (Nat.le_of_lt h), List.getElem?_drop]
  rw [show k + 1 + (j - k) = j + 1 by omega]
theorem cpy_in {f g : Nat → Int32} {sp dp n j : Nat} (h1 : dp ≤ j) (h2 : j < dp + n) : va_cpy f g sp dp n j = f (sp + (j - dp)) := if_pos ⟨h1, h2⟩
theorem cpy_out {f g : Nat → Int32} {sp dp n j : Nat} (h : j < dp ∨ dp + n ≤ j) : va_cpy f g sp dp n j = g j := if_neg (by omega)
theorem insertsAt_ok {m : qaM} {c k i : Nat} {P : List Nat} (h : PA m c P) (hk : k ≤ P.length) (hl : P.length < 8) : ∃ m2, f_X2_insertsAt c m (nI k) (nI i) = some m2 ∧ PA m2 c (insA P k i) ∧ qF [c, c + 1] m m2 := by
  refine ⟨qa_st (qa_st (qa_pt m (c + 1) (va_cpy (m (c + 1)) (m (c + 1)) k (k + 1) (P.length - k))) (c + 1) k (nI i)) c 0 (nI (P.length + 1)), ?_, ⟨?_, ?_, fun j hj => ?_⟩, fun a ha => ?_⟩
  · unfold f_X2_insertsAt
    rw [h.1]
    simp only [li_0, li_1, li_2, li_3, li_4, li_5, li_6, li_7, li_8, li_9, li_10, li_11, li_12, li_13, li_14, li_15, li_16, li_17, li_18, li_19, li_20, li_30, li_31, li_32, li_33, li_40, li_41, li_42, li_43, li_45, li_48, li_56, li_57, li_59, li_60, li_61, li_64, li_91, li_97, li_99, li_100, li_122, li_150, li_160, li_200, li_201, li_255, li_300, li_303, li_304, li_305, li_306, li_312, li_400, li_500, li_999, li_1003, li_3099, li_99999, li_100000, li_neg]
    rw [pu_sub hk]
    ((try simp only [li_0, li_1, li_2, li_3, li_4, li_5, li_6, li_7, li_8, li_9, li_10, li_11, li_12, li_13, li_14, li_15, li_16, li_17, li_18, li_19, li_20, li_30, li_31, li_32, li_33, li_40, li_41, li_42, li_43, li_45, li_48, li_56, li_57, li_59, li_60, li_61, li_64, li_91, li_97, li_99, li_100, li_122, li_150, li_160, li_200, li_201, li_255, li_300, li_303, li_304, li_305, li_306, li_312, li_400, li_500, li_999, li_1003, li_3099, li_99999, li_100000, li_neg]); simp (disch := omega) only [ic_le_f, ic_le_t, ic_lt_f, ic_lt_t, ic_eq_f, ic_eq_t, ic_im, ic_mi, ic_mm_t, ic_mm_f, ic_mlt, ic_mle, ic_ilem, ic_iltm, ic_mmle_t, ic_mmle_f, pu_add, pu_mul, pu_in, pu_ck, pu_let, pu_cl, pu_cpok, pu_inr, Option.bind_some, ite_true, ite_false])
    rw [st_n (by omega), pt_n (by omega), h.1, pu_add]
  · rw [st_s, up_s, insA_len hk]
  · rw [insA_len hk]
    omega
  · rw [insA_len hk] at hj
    rw [st_n (by omega), st_s]
    rcases Nat.lt_trichotomy j k with q | q | q
    · rw [up_n (by omega), pt_s, cpy_out (by omega), insA_lt hk q]
      exact h.2.2 j (by omega)
    · subst q
      rw [up_s, insA_eq hk]
    · rw [up_n (by omega), pt_s, cpy_in (by omega) (by omega), insA_gt hk q, show k + (j - (k + 1)) = j - 1 by omega]
      exact h.2.2 (j - 1) (by omega)
  · simp at ha
    rw [st_n ha.1, st_n ha.2, pt_n ha.2]
theorem removesAt_ok {m : qaM} {c k : Nat} {P : List Nat} (h : PA m c P) (hk : k < P.length) : ∃ m2, f_X2_removesAt c m (nI k) = some (nI (P.getD k 0), m2) ∧ PA m2 c (rmA P k) ∧ qF [c, c + 1] m m2 := by
  have h8 := h.2.1
  refine ⟨qa_st (qa_pt m (c + 1) (va_cpy (m (c + 1)) (m (c + 1)) (k + 1) k (P.length - k - 1))) c 0 (nI (P.length - 1)), ?_, ⟨?_, ?_, fun j hj => ?_⟩, fun a ha => ?_⟩
  · unfold f_X2_removesAt
    rw [h.1]
    simp only [li_0, li_1, li_2, li_3, li_4, li_5, li_6, li_7, li_8, li_9, li_10, li_11, li_12, li_13, li_14, li_15, li_16, li_17, li_18, li_19, li_20, li_30, li_31, li_32, li_33, li_40, li_41, li_42, li_43, li_45, li_48, li_56, li_57, li_59, li_60, li_61, li_64, li_91, li_97, li_99, li_100, li_122, li_150, li_160, li_200, li_201, li_255, li_300, li_303, li_304, li_305, li_306, li_312, li_400, li_500, li_999, li_1003, li_3099, li_99999, li_100000, li_neg]
    rw [pu_sub (by omega), pu_sub (by omega)]
    ((try simp only [li_0, li_1, li_2, li_3, li_4, li_5, li_6, li_7, li_8, li_9, li_10, li_11, li_12, li_13, li_14, li_15, li_16, li_17, li_18, li_19, li_20, li_30, li_31, li_32, li_33, li_40, li_41, li_42, li_43, li_45, li_48, li_56, li_57, li_59, li_60, li_61, li_64, li_91, li_97, li_99, li_100, li_122, li_150, li_160, li_200, li_201, li_255, li_300, li_303, li_304, li_305, li_306, li_312, li_400, li_500, li_999, li_1003, li_3099, li_99999, li_100000, li_neg]); simp (disch := omega) only [ic_le_f, ic_le_t, ic_lt_f, ic_lt_t, ic_eq_f, ic_eq_t, ic_im, ic_mi, ic_mm_t, ic_mm_f, ic_mlt, ic_mle, ic_ilem, ic_iltm, ic_mmle_t, ic_mmle_f, pu_add, pu_mul, pu_in, pu_ck, pu_let, pu_cl, pu_cpok, pu_inr, Option.bind_some, ite_true, ite_false])
    rw [pt_n (by omega), h.1, pu_sub (by omega), h.2.2 k hk]
  · rw [st_s, up_s, rmA_len hk]
  · rw [rmA_len hk]
    omega
  · rw [rmA_len hk] at hj
    rw [st_n (by omega), pt_s]
    rcases Nat.lt_or_ge j k with q | q
    · rw [cpy_out (by omega), rmA_lt hk q]
      exact h.2.2 j (by omega)
    · rw [cpy_in (by omega) (by omega), rmA_ge hk q, show k + 1 + (j - k) = j + 1 by omega]
      exact h.2.2 (j + 1) (by omega)
  · simp at ha
    rw [st_n ha.1, pt_n ha.2]
theorem removesAt_m1 {m : qaM} {c : Nat} : f_X2_removesAt c m (nM 1) = some (nM 1, m) := by
  unfold f_X2_removesAt
  ((try simp only [li_0, li_1, li_2, li_3, li_4, li_5, li_6, li_7, li_8, li_9, li_10, li_11, li_12, li_13, li_14, li_15, li_16, li_17, li_18, li_19, li_20, li_30, li_31, li_32, li_33, li_40, li_41, li_42, li_43, li_45, li_48, li_56, li_57, li_59, li_60, li_61, li_64, li_91, li_97, li_99, li_100, li_122, li_150, li_160, li_200, li_201, li_255, li_300, li_303, li_304, li_305, li_306, li_312, li_400, li_500, li_999, li_1003, li_3099, li_99999, li_100000, li_neg]); simp (disch := omega) only [ic_le_f, ic_le_t, ic_lt_f, ic_lt_t, ic_eq_f, ic_eq_t, ic_im, ic_mi, ic_mm_t, ic_mm_f, ic_mlt, ic_mle, ic_ilem, ic_iltm, ic_mmle_t, ic_mmle_f, pu_add, pu_mul, pu_in, pu_ck, pu_let, pu_cl, pu_cpok, pu_inr, Option.bind_some, ite_true, ite_false])
/-- where it lies; the length: nowhere -/
def plA (P : List Nat) (i : Nat) : Nat := P.findIdx (fun x => x == i)
theorem placeOf_ok {m : qaM} {c i : Nat} {P : List Nat} (h : PA m c P) (hb : ∀ x ∈ P, x < 8) (hi : i < 8) : f_X2_placeOf c m (nI i) = some (if i ∈ P then nI (plA P i) else nM 1) := by
  have h8 := h.2.1
  obtain ⟨r, h1, h2⟩ := lp_at (f := fun s : Int32 => b_X2_placeOf_2 c m (nI i) s) (fun j s => s = nI j ∧ ∀ a : Nat, a < j → P.getD a 0 ≠ i) (fun r => r = if i ∈ P then nI (plA P i) else nM 1) P.length (s := (0 : Int32)) ⟨rfl, fun a h => by omega⟩ (by omega) (by
    rintro j s hj ⟨rfl, hne⟩
    unfold b_X2_placeOf_2
    rw [h.1]
    rcases Nat.lt_or_ge j P.length with q | q
    · have hx : P.getD j 0 < 8 := by
        rw [List.getD_eq_getElem?_getD, List.getElem?_eq_getElem q]
        exact hb _ (List.getElem_mem q)
      by_cases he : P.getD j 0 = i
      · refine Or.inr ⟨_, ?_, rfl⟩
        rw [at_ok h q]
        ((try simp only [li_0, li_1, li_2, li_3, li_4, li_5, li_6, li_7, li_8, li_9, li_10, li_11, li_12, li_13, li_14, li_15, li_16, li_17, li_18, li_19, li_20, li_30, li_31, li_32, li_33, li_40, li_41, li_42, li_43, li_45, li_48, li_56, li_57, li_59, li_60, li_61, li_64, li_91, li_97, li_99, li_100, li_122, li_150, li_160, li_200, li_201, li_255, li_300, li_303, li_304, li_305, li_306, li_312, li_400, li_500, li_999, li_1003, li_3099, li_99999, li_100000, li_neg]); simp (disch := omega) only [ic_le_f, ic_le_t, ic_lt_f, ic_lt_t, ic_eq_f, ic_eq_t, ic_im, ic_mi, ic_mm_t, ic_mm_f, ic_mlt, ic_mle, ic_ilem, ic_iltm, ic_mmle_t, ic_mmle_f, pu_add, pu_mul, pu_in, pu_ck, pu_let, pu_cl, pu_cpok, pu_inr, Option.bind_some, ite_true, ite_false])
        have hm : i ∈ P := by
          rw [← he, List.getD_eq_getElem?_getD, List.getElem?_eq_getElem q]
          exact List.getElem_mem q
        have hp : plA P i = j := by
          unfold plA
          rw [List.findIdx_eq q]
          refine ⟨?_, fun a ha => ?_⟩
          · rw [List.getD_eq_getElem?_getD, List.getElem?_eq_getElem q] at he
            simpa using he
          · have := hne a ha
            rw [List.getD_eq_getElem?_getD, List.getElem?_eq_getElem (by omega)] at this
            simpa using this
        rw [if_pos hm, hp]
      · refine Or.inl ⟨_, ?_, q, rfl, fun a ha => ?_⟩
        · rw [at_ok h q]
          ((try simp only [li_0, li_1, li_2, li_3, li_4, li_5, li_6, li_7, li_8, li_9, li_10, li_11, li_12, li_13, li_14, li_15, li_16, li_17, li_18, li_19, li_20, li_30, li_31, li_32, li_33, li_40, li_41, li_42, li_43, li_45, li_48, li_56, li_57, li_59, li_60, li_61, li_64, li_91, li_97, li_99, li_100, li_122, li_150, li_160, li_200, li_201, li_255, li_300, li_303, li_304, li_305, li_306, li_312, li_400, li_500, li_999, li_1003, li_3099, li_99999, li_100000, li_neg]); simp (disch := omega) only [ic_le_f, ic_le_t, ic_lt_f, ic_lt_t, ic_eq_f, ic_eq_t, ic_im, ic_mi, ic_mm_t, ic_mm_f, ic_mlt, ic_mle, ic_ilem, ic_iltm, ic_mmle_t, ic_mmle_f, pu_add, pu_mul, pu_in, pu_ck, pu_let, pu_cl, pu_cpok, pu_inr, Option.bind_some, ite_true, ite_false])
        · rcases Nat.lt_or_ge a j with q2 | q2
          · exact hne a q2
          · rw [show a = j by omega]
            exact he
    · refine Or.inr ⟨_, ?_, rfl⟩
      ((try simp only [li_0, li_1, li_2, li_3, li_4, li_5, li_6, li_7, li_8, li_9, li_10, li_11, li_12, li_13, li_14, li_15, li_16, li_17, li_18, li_19, li_20, li_30, li_31, li_32, li_33, li_40, li_41, li_42, li_43, li_45, li_48, li_56, li_57, li_59, li_60, li_61, li_64, li_91, li_97, li_99, li_100, li_122, li_150, li_160, li_200, li_201, li_255, li_300, li_303, li_304, li_305, li_306, li_312, li_400, li_500, li_999, li_1003, li_3099, li_99999, li_100000, li_neg]); simp (disch := omega) only [ic_le_f, ic_le_t, ic_lt_f, ic_lt_t, ic_eq_f, ic_eq_t, ic_im, ic_mi, ic_mm_t, ic_mm_f, ic_mlt, ic_mle, ic_ilem, ic_iltm, ic_mmle_t, ic_mmle_f, pu_add, pu_mul, pu_in, pu_ck, pu_let, pu_cl, pu_cpok, pu_inr, Option.bind_some, ite_true, ite_false])
      have hm : ¬ i ∈ P := by
        intro hm
        obtain ⟨a, ha, e⟩ := List.getElem_of_mem hm
        refine hne a (by omega) ?_
        rw [List.getD_eq_getElem?_getD, List.getElem?_eq_getElem ha]
        exact e
      rw [if_neg hm])
  rw [f_X2_placeOf, lp_X2_placeOf_2, h1, h2]
