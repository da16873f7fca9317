/-! PURE: the calls (5): what only thinks -/
theorem kthinks {m : qaM} {H : HS} {S : SF} {n N : Nat} (c : CH m 8 H) (v : HV H) (t : TXc m N S) (sv : SV S) (hN : H.lw < N) (hn : n ≤ 300) :
    ∃ m1, f_X6_thinks m (nI n) = some m1 ∧ CY m1 20 (seqT S (wR H) n (ty0 H)) ∧ qF [4, 5, 20, 21, 22, 23, 24, 25] m m1 := by
  obtain ⟨m1, a1, a2, a3⟩ := kbegins (h := 20) c (by omega)
  obtain ⟨m2, b1, b2, b3⟩ := kweeks (n := n) a2 (ty0_V v) (by omega) (t.F a3 (by decide) (by decide) (by decide)) sv hN hn (show 0 < 2 ^ 20 by decide)
  refine ⟨m2, ?_, b2, (a3.mo (by simp)).t2 b3 (by simp)⟩
  unfold f_X6_thinks
  rw [a1, Option.bind_some, b1, Option.bind_some]
theorem r7leftMany {m : qaM} {n : Nat} {A : Nat → AL} (h0 : m 36 0 = nI n) (h8 : n ≤ 8) (hl : LR m n A) (hv : ∀ i, AV (A i)) : f_X7_leftMany m = some (nI (lfH A n)) := by
  obtain ⟨r, h1, h2⟩ := lp_at (f := fun s : Int32 × Int32 => b_X7_leftMany_4 m s.1 s.2) (fun j s => s = (nI (lfH A j), nI j)) (fun r => r = nI (lfH A n)) n (s := ((0 : Int32), (0 : Int32))) rfl (by omega) (by
    rintro j s hj rfl
    unfold b_X7_leftMany_4
    rw [h0]
    rcases Nat.lt_or_ge j n with q | q
    · refine Or.inl ⟨_, ?_, q, rfl⟩
      have r5 : m 39 0 = m 39 0 := rfl
      have e5 : m 59 (6 * j + 5) = nI (A j 7) := hl j 5 q (by omega) (by omega)
      have a7 := (hv j).2.2.2.2.2.2.2
      ((try simp only [li_0, li_1, li_2, li_3, li_4, li_5, li_6, li_7, li_8, li_9, li_10, li_11, li_12, li_13, li_14, li_15, li_16, li_17, li_18, li_19, li_20, li_30, li_31, li_32, li_33, li_40, li_41, li_42, li_43, li_45, li_48, li_56, li_57, li_59, li_60, li_61, li_64, li_91, li_97, li_99, li_100, li_122, li_150, li_160, li_200, li_201, li_255, li_300, li_303, li_304, li_305, li_306, li_312, li_400, li_500, li_999, li_1003, li_3099, li_99999, li_100000, li_neg]); simp (disch := omega) only [ic_le_f, ic_le_t, ic_lt_f, ic_lt_t, ic_eq_f, ic_eq_t, ic_im, ic_mi, ic_mm_t, ic_mm_f, ic_mlt, ic_mle, ic_ilem, ic_iltm, ic_mmle_t, ic_mmle_f, pu_add, pu_mul, pu_in, pu_ck, pu_let, pu_cl, pu_cpok, pu_inr, Option.bind_some, ite_true, ite_false])
      rw [e5, pu_sub (by omega)]
      ((try simp only [lfH, li_0, li_1, li_2, li_3, li_4, li_5, li_6, li_7, li_8, li_9, li_10, li_11, li_12, li_13, li_14, li_15, li_16, li_17, li_18, li_19, li_20, li_30, li_31, li_32, li_33, li_40, li_41, li_42, li_43, li_45, li_48, li_56, li_57, li_59, li_60, li_61, li_64, li_91, li_97, li_99, li_100, li_122, li_150, li_160, li_200, li_201, li_255, li_300, li_303, li_304, li_305, li_306, li_312, li_400, li_500, li_999, li_1003, li_3099, li_99999, li_100000, li_neg]); simp (disch := omega) only [lfH, ic_le_f, ic_le_t, ic_lt_f, ic_lt_t, ic_eq_f, ic_eq_t, ic_im, ic_mi, ic_mm_t, ic_mm_f, ic_mlt, ic_mle, ic_ilem, ic_iltm, ic_mmle_t, ic_mmle_f, pu_add, pu_mul, pu_in, pu_ck, pu_let, pu_cl, pu_cpok, pu_inr, Option.bind_some, ite_true, ite_false])
      by_cases z : A j 7 = 1
      · rw [if_pos z, z]
      · rw [if_neg z, show A j 7 = 0 by omega]
    · have : j = n := by omega
      subst this
      refine Or.inr ⟨_, ?_, rfl⟩
      ((try simp only [li_0, li_1, li_2, li_3, li_4, li_5, li_6, li_7, li_8, li_9, li_10, li_11, li_12, li_13, li_14, li_15, li_16, li_17, li_18, li_19, li_20, li_30, li_31, li_32, li_33, li_40, li_41, li_42, li_43, li_45, li_48, li_56, li_57, li_59, li_60, li_61, li_64, li_91, li_97, li_99, li_100, li_122, li_150, li_160, li_200, li_201, li_255, li_300, li_303, li_304, li_305, li_306, li_312, li_400, li_500, li_999, li_1003, li_3099, li_99999, li_100000, li_neg]); simp (disch := omega) only [ic_le_f, ic_le_t, ic_lt_f, ic_lt_t, ic_eq_f, ic_eq_t, ic_im, ic_mi, ic_mm_t, ic_mm_f, ic_mlt, ic_mle, ic_ilem, ic_iltm, ic_mmle_t, ic_mmle_f, pu_add, pu_mul, pu_in, pu_ck, pu_let, pu_cl, pu_cpok, pu_inr, Option.bind_some, ite_true, ite_false]))
  rw [f_X7_leftMany, lp_X7_leftMany_4, h1, h2]
/-- the most worn, from 1 on; 0: there is none -/
def mwP (A : Nat → AL) : Nat → Nat
  | 0 => 0
  | n + 1 => if mwP A n < A n 2 + 1 then A n 2 + 1 else mwP A n
theorem mwP_le {A : Nat → AL} (h : ∀ i, AV (A i)) (n : Nat) : mwP A n ≤ 1000 := by
  induction n with
  | zero => exact Nat.zero_le _
  | succ n ih =>
    have := (h n).2.2.1
    unfold mwP
    split <;> omega
theorem plI_lt {p w : Nat} (hp : p < 2 ^ 30) (hw : w < 2 ^ 30) : plI p < nI w ↔ p < w + 1 := by
  unfold plI
  by_cases q : p = 0
  · rw [if_pos q, Int32.lt_iff_toInt_lt, nM_t (by omega), pu_t (by omega)]
    omega
  · rw [if_neg q, Int32.lt_iff_toInt_lt, pu_t (by omega), pu_t (by omega)]
    omega
theorem plI_ge {p w : Nat} (hp : p < 2 ^ 30) (hw : w < 2 ^ 30) : nI w ≤ plI p ↔ w + 1 ≤ p := by
  unfold plI
  by_cases q : p = 0
  · rw [if_pos q, Int32.le_iff_toInt_le, nM_t (by omega), pu_t (by omega)]
    omega
  · rw [if_neg q, Int32.le_iff_toInt_le, pu_t (by omega), pu_t (by omega)]
    omega
theorem kmostWorn {m : qaM} {h : Nat} {H : HS} (c : CH m h H) (v : HV H) : f_X1_mostWorn (h + 1) m = some (plI (mwP H.A H.n)) := by
  have n8 := v.n8
  obtain ⟨r, h1, h2⟩ := lp_at (f := fun s : Int32 × Int32 => b_X1_mostWorn_4 (h + 1) m s.1 s.2) (fun j s => s = (plI (mwP H.A j), nI j)) (fun r => r = plI (mwP H.A H.n)) H.n (s := ((-1 : Int32), (0 : Int32))) rfl (by omega) (by
    rintro j s hj rfl
    unfold b_X1_mostWorn_4
    rw [c.1.1]
    rcases Nat.lt_or_ge j H.n with q | q
    · refine Or.inl ⟨_, ?_, q, rfl⟩
      have a2 := (v.av j).2.2.1
      have hm := mwP_le v.av j
      ((try simp only [li_0, li_1, li_2, li_3, li_4, li_5, li_6, li_7, li_8, li_9, li_10, li_11, li_12, li_13, li_14, li_15, li_16, li_17, li_18, li_19, li_20, li_30, li_31, li_32, li_33, li_40, li_41, li_42, li_43, li_45, li_48, li_56, li_57, li_59, li_60, li_61, li_64, li_91, li_97, li_99, li_100, li_122, li_150, li_160, li_200, li_201, li_255, li_300, li_303, li_304, li_305, li_306, li_312, li_400, li_500, li_999, li_1003, li_3099, li_99999, li_100000, li_neg]); simp (disch := omega) only [ic_le_f, ic_le_t, ic_lt_f, ic_lt_t, ic_eq_f, ic_eq_t, ic_im, ic_mi, ic_mm_t, ic_mm_f, ic_mlt, ic_mle, ic_ilem, ic_iltm, ic_mmle_t, ic_mmle_f, pu_add, pu_mul, pu_in, pu_ck, pu_let, pu_cl, pu_cpok, pu_inr, Option.bind_some, ite_true, ite_false])
      rw [cfact c (by omega) (by omega) (by omega), Option.bind_some]
      unfold qa_max
      by_cases z : mwP H.A j < H.A j 2 + 1
      · rw [if_pos ((plI_lt (by omega) (by omega)).mpr z), mwP, if_pos z, plI_s]
      · rw [if_neg (fun y => z ((plI_lt (by omega) (by omega)).mp y)), mwP, if_neg z]
    · have : j = H.n := by omega
      subst this
      refine Or.inr ⟨_, ?_, rfl⟩
      ((try simp only [li_0, li_1, li_2, li_3, li_4, li_5, li_6, li_7, li_8, li_9, li_10, li_11, li_12, li_13, li_14, li_15, li_16, li_17, li_18, li_19, li_20, li_30, li_31, li_32, li_33, li_40, li_41, li_42, li_43, li_45, li_48, li_56, li_57, li_59, li_60, li_61, li_64, li_91, li_97, li_99, li_100, li_122, li_150, li_160, li_200, li_201, li_255, li_300, li_303, li_304, li_305, li_306, li_312, li_400, li_500, li_999, li_1003, li_3099, li_99999, li_100000, li_neg]); simp (disch := omega) only [ic_le_f, ic_le_t, ic_lt_f, ic_lt_t, ic_eq_f, ic_eq_t, ic_im, ic_mi, ic_mm_t, ic_mm_f, ic_mlt, ic_mle, ic_ilem, ic_iltm, ic_mmle_t, ic_mmle_f, pu_add, pu_mul, pu_in, pu_ck, pu_let, pu_cl, pu_cpok, pu_inr, Option.bind_some, ite_true, ite_false]))
  rw [f_X1_mostWorn, lp_X1_mostWorn_4, h1, h2]
theorem r7mostWorn {m : qaM} {n : Nat} {A : Nat → AL} (h0 : m 36 0 = nI n) (h8 : n ≤ 8) (hl : LR m n A) (hv : ∀ i, AV (A i)) : f_X7_mostWorn m = some (plI (mwP A n)) := by
  obtain ⟨r, h1, h2⟩ := lp_at (f := fun s : Int32 × Int32 => b_X7_mostWorn_4 m s.1 s.2) (fun j s => s = (plI (mwP A j), nI j)) (fun r => r = plI (mwP A n)) n (s := ((-1 : Int32), (0 : Int32))) rfl (by omega) (by
    rintro j s hj rfl
    unfold b_X7_mostWorn_4
    rw [h0]
    rcases Nat.lt_or_ge j n with q | q
    · refine Or.inl ⟨_, ?_, q, rfl⟩
      have a2 := (hv j).2.2.1
      have hm := mwP_le hv j
      have e0 : m 59 (6 * j) = nI (A j 2) := hl j 0 q (by omega) (by omega)
      ((try simp only [li_0, li_1, li_2, li_3, li_4, li_5, li_6, li_7, li_8, li_9, li_10, li_11, li_12, li_13, li_14, li_15, li_16, li_17, li_18, li_19, li_20, li_30, li_31, li_32, li_33, li_40, li_41, li_42, li_43, li_45, li_48, li_56, li_57, li_59, li_60, li_61, li_64, li_91, li_97, li_99, li_100, li_122, li_150, li_160, li_200, li_201, li_255, li_300, li_303, li_304, li_305, li_306, li_312, li_400, li_500, li_999, li_1003, li_3099, li_99999, li_100000, li_neg]); simp (disch := omega) only [ic_le_f, ic_le_t, ic_lt_f, ic_lt_t, ic_eq_f, ic_eq_t, ic_im, ic_mi, ic_mm_t, ic_mm_f, ic_mlt, ic_mle, ic_ilem, ic_iltm, ic_mmle_t, ic_mmle_f, pu_add, pu_mul, pu_in, pu_ck, pu_let, pu_cl, pu_cpok, pu_inr, Option.bind_some, ite_true, ite_false])
      rw [e0]
      by_cases z : mwP A j < A j 2 + 1
      · rw [if_neg (fun y => absurd ((plI_ge (by omega) (by omega)).mp y) (by omega)), mwP, if_pos z, plI_s]
        ((try simp only [b_X7_mostWorn_38, li_0, li_1, li_2, li_3, li_4, li_5, li_6, li_7, li_8, li_9, li_10, li_11, li_12, li_13, li_14, li_15, li_16, li_17, li_18, li_19, li_20, li_30, li_31, li_32, li_33, li_40, li_41, li_42, li_43, li_45, li_48, li_56, li_57, li_59, li_60, li_61, li_64, li_91, li_97, li_99, li_100, li_122, li_150, li_160, li_200, li_201, li_255, li_300, li_303, li_304, li_305, li_306, li_312, li_400, li_500, li_999, li_1003, li_3099, li_99999, li_100000, li_neg]); simp (disch := omega) only [b_X7_mostWorn_38, ic_le_f, ic_le_t, ic_lt_f, ic_lt_t, ic_eq_f, ic_eq_t, ic_im, ic_mi, ic_mm_t, ic_mm_f, ic_mlt, ic_mle, ic_ilem, ic_iltm, ic_mmle_t, ic_mmle_f, pu_add, pu_mul, pu_in, pu_ck, pu_let, pu_cl, pu_cpok, pu_inr, Option.bind_some, ite_true, ite_false])
      · rw [if_pos ((plI_ge (by omega) (by omega)).mpr (by omega)), mwP, if_neg z]
        ((try simp only [b_X7_mostWorn_38, li_0, li_1, li_2, li_3, li_4, li_5, li_6, li_7, li_8, li_9, li_10, li_11, li_12, li_13, li_14, li_15, li_16, li_17, li_18, li_19, li_20, li_30, li_31, li_32, li_33, li_40, li_41, li_42, li_43, li_45, li_48, li_56, li_57, li_59, li_60, li_61, li_64, li_91, li_97, li_99, li_100, li_122, li_150, li_160, li_200, li_201, li_255, li_300, li_303, li_304, li_305, li_306, li_312, li_400, li_500, li_999, li_1003, li_3099, li_99999, li_100000, li_neg]); simp (disch := omega) only [b_X7_mostWorn_38, ic_le_f, ic_le_t, ic_lt_f, ic_lt_t, ic_eq_f, ic_eq_t, ic_im, ic_mi, ic_mm_t, ic_mm_f, ic_mlt, ic_mle, ic_ilem, ic_iltm, ic_mmle_t, ic_mmle_f, pu_add, pu_mul, pu_in, pu_ck, pu_let, pu_cl, pu_cpok, pu_inr, Option.bind_some, ite_true, ite_false])
    · have : j = n := by omega
      subst this
      refine Or.inr ⟨_, ?_, rfl⟩
      ((try simp only [li_0, li_1, li_2, li_3, li_4, li_5, li_6, li_7, li_8, li_9, li_10, li_11, li_12, li_13, li_14, li_15, li_16, li_17, li_18, li_19, li_20, li_30, li_31, li_32, li_33, li_40, li_41, li_42, li_43, li_45, li_48, li_56, li_57, li_59, li_60, li_61, li_64, li_91, li_97, li_99, li_100, li_122, li_150, li_160, li_200, li_201, li_255, li_300, li_303, li_304, li_305, li_306, li_312, li_400, li_500, li_999, li_1003, li_3099, li_99999, li_100000, li_neg]); simp (disch := omega) only [ic_le_f, ic_le_t, ic_lt_f, ic_lt_t, ic_eq_f, ic_eq_t, ic_im, ic_mi, ic_mm_t, ic_mm_f, ic_mlt, ic_mle, ic_ilem, ic_iltm, ic_mmle_t, ic_mmle_f, pu_add, pu_mul, pu_in, pu_ck, pu_let, pu_cl, pu_cpok, pu_inr, Option.bind_some, ite_true, ite_false]))
  rw [f_X7_mostWorn, lp_X7_mostWorn_4, h1, h2]
theorem kisWeeks {m : qaM} (x : Int32) : (∃ n : Nat, n ≤ 200 ∧ x = nI n ∧ f_X6_isWeeks m x = some (nI 1)) ∨ f_X6_isWeeks m x = some (nI 0) := by
  unfold f_X6_isWeeks
  rcases anyI x with q | ⟨n, hn, rfl⟩
  · rw [if_pos q]
    exact Or.inr rfl
  · by_cases z : 200 < n
    · refine Or.inr ?_
      ((try simp only [li_0, li_1, li_2, li_3, li_4, li_5, li_6, li_7, li_8, li_9, li_10, li_11, li_12, li_13, li_14, li_15, li_16, li_17, li_18, li_19, li_20, li_30, li_31, li_32, li_33, li_40, li_41, li_42, li_43, li_45, li_48, li_56, li_57, li_59, li_60, li_61, li_64, li_91, li_97, li_99, li_100, li_122, li_150, li_160, li_200, li_201, li_255, li_300, li_303, li_304, li_305, li_306, li_312, li_400, li_500, li_999, li_1003, li_3099, li_99999, li_100000, li_neg]); simp (disch := omega) only [ic_le_f, ic_le_t, ic_lt_f, ic_lt_t, ic_eq_f, ic_eq_t, ic_im, ic_mi, ic_mm_t, ic_mm_f, ic_mlt, ic_mle, ic_ilem, ic_iltm, ic_mmle_t, ic_mmle_f, pu_add, pu_mul, pu_in, pu_ck, pu_let, pu_cl, pu_cpok, pu_inr, Option.bind_some, ite_true, ite_false])
    · refine Or.inl ⟨n, by omega, rfl, ?_⟩
      ((try simp only [li_0, li_1, li_2, li_3, li_4, li_5, li_6, li_7, li_8, li_9, li_10, li_11, li_12, li_13, li_14, li_15, li_16, li_17, li_18, li_19, li_20, li_30, li_31, li_32, li_33, li_40, li_41, li_42, li_43, li_45, li_48, li_56, li_57, li_59, li_60, li_61, li_64, li_91, li_97, li_99, li_100, li_122, li_150, li_160, li_200, li_201, li_255, li_300, li_303, li_304, li_305, li_306, li_312, li_400, li_500, li_999, li_1003, li_3099, li_99999, li_100000, li_neg]); simp (disch := omega) only [ic_le_f, ic_le_t, ic_lt_f, ic_lt_t, ic_eq_f, ic_eq_t, ic_im, ic_mi, ic_mm_t, ic_mm_f, ic_mlt, ic_mle, ic_ilem, ic_iltm, ic_mmle_t, ic_mmle_f, pu_add, pu_mul, pu_in, pu_ck, pu_let, pu_cl, pu_cpok, pu_inr, Option.bind_some, ite_true, ite_false])
theorem r7areWeeks {m : qaM} {n : Nat} (hn : n ≤ 200) : f_X7_areWeeks m (nI n) = some (nI 1) := by
  unfold f_X7_areWeeks
  simp only [li_0, li_1, li_2, li_3, li_4, li_5, li_6, li_7, li_8, li_9, li_10, li_11, li_12, li_13, li_14, li_15, li_16, li_17, li_18, li_19, li_20, li_30, li_31, li_32, li_33, li_40, li_41, li_42, li_43, li_45, li_48, li_56, li_57, li_59, li_60, li_61, li_64, li_91, li_97, li_99, li_100, li_122, li_150, li_160, li_200, li_201, li_255, li_300, li_303, li_304, li_305, li_306, li_312, li_400, li_500, li_999, li_1003, li_3099, li_99999, li_100000, li_neg]
  rw [r7in (by omega) (by omega) (by omega), if_pos ⟨Nat.zero_le _, hn⟩]
  rfl
theorem r7areWeeks_n {m m1 : qaM} {x : Int32} (h : f_X6_isWeeks m x = some (nI 0)) : f_X7_areWeeks m1 x = some (nI 0) := by
  unfold f_X7_areWeeks
  simp only [li_0, li_1, li_2, li_3, li_4, li_5, li_6, li_7, li_8, li_9, li_10, li_11, li_12, li_13, li_14, li_15, li_16, li_17, li_18, li_19, li_20, li_30, li_31, li_32, li_33, li_40, li_41, li_42, li_43, li_45, li_48, li_56, li_57, li_59, li_60, li_61, li_64, li_91, li_97, li_99, li_100, li_122, li_150, li_160, li_200, li_201, li_255, li_300, li_303, li_304, li_305, li_306, li_312, li_400, li_500, li_999, li_1003, li_3099, li_99999, li_100000, li_neg]
  rcases anyI x with q | ⟨n, hn, rfl⟩
  · rw [r7in_n q (by omega)]
    rfl
  · rw [r7in (by omega) (by omega) (by omega)]
    by_cases z : n ≤ 200
    · exfalso
      unfold f_X6_isWeeks at h
      simp only [li_0, li_1, li_2, li_3, li_4, li_5, li_6, li_7, li_8, li_9, li_10, li_11, li_12, li_13, li_14, li_15, li_16, li_17, li_18, li_19, li_20, li_30, li_31, li_32, li_33, li_40, li_41, li_42, li_43, li_45, li_48, li_56, li_57, li_59, li_60, li_61, li_64, li_91, li_97, li_99, li_100, li_122, li_150, li_160, li_200, li_201, li_255, li_300, li_303, li_304, li_305, li_306, li_312, li_400, li_500, li_999, li_1003, li_3099, li_99999, li_100000, li_neg] at h
      rw [if_neg (nI_nlt (by omega) hn), if_neg (nI_nlt z (by omega))] at h
      exact absurd (Option.some.inj h) (by decide)
    · rw [if_neg (fun y => z y.2)]
      rfl
