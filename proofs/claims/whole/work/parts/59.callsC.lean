/-! PURE: turning over, and the calls (3) -/
def mayA (H : HS) (i : Nat) : Bool := decide (H.A i 5 = 0 ∧ i ∈ H.P)
theorem mayA_t {H : HS} {i : Nat} (h1 : H.A i 5 = 0) (h2 : i ∈ H.P) : mayA H i = true := decide_eq_true ⟨h1, h2⟩
theorem mayA_o {H : HS} {i : Nat} (h : mayA H i = true) : H.A i 5 = 0 ∧ i ∈ H.P := of_decide_eq_true h
def turnA (H : HS) (i : Nat) : HS := H.setA i (aU (aU (H.A i) 2 (H.A i 2 / 2)) 5 1)
theorem turnA_V {H : HS} {i : Nat} (h : HV H) (hi : i < H.n) : HV (turnA H i) := by
  have a2 := (h.av i).2.2.1
  exact HV.setA h hi (((h.av i).u (k := 2) (show H.A i 2 / 2 ≤ 999 by omega)).u (k := 5) (Nat.le_refl 1)) (fun q => h.fr i q)
theorem kcanTurn {m : qaM} {h i : Nat} {H : HS} (c : CH m h H) (v : HV H) (hi : i < 8) : f_X0_canTurn h m (nI i) = some (if mayA H i = true then nI 1 else nI 0) := by
  have a5 := (v.av i).2.2.2.2.2.1
  unfold f_X0_canTurn
  simp only [li_0, li_1, li_2, li_3, li_4, li_5, li_6, li_7, li_8, li_9, li_10, li_11, li_12, li_13, li_14, li_15, li_16, li_17, li_18, li_19, li_20, li_30, li_31, li_32, li_33, li_40, li_41, li_42, li_43, li_45, li_48, li_56, li_57, li_59, li_60, li_61, li_64, li_91, li_97, li_99, li_100, li_122, li_150, li_160, li_200, li_201, li_255, li_300, li_303, li_304, li_305, li_306, li_312, li_400, li_500, li_999, li_1003, li_3099, li_99999, li_100000, li_neg]
  rw [cfact c hi (by omega) (by omega), Option.bind_some]
  by_cases q : H.A i 5 = 0
  · rw [q]
    ((try simp only [li_0, li_1, li_2, li_3, li_4, li_5, li_6, li_7, li_8, li_9, li_10, li_11, li_12, li_13, li_14, li_15, li_16, li_17, li_18, li_19, li_20, li_30, li_31, li_32, li_33, li_40, li_41, li_42, li_43, li_45, li_48, li_56, li_57, li_59, li_60, li_61, li_64, li_91, li_97, li_99, li_100, li_122, li_150, li_160, li_200, li_201, li_255, li_300, li_303, li_304, li_305, li_306, li_312, li_400, li_500, li_999, li_1003, li_3099, li_99999, li_100000, li_neg]); simp (disch := omega) only [ic_le_f, ic_le_t, ic_lt_f, ic_lt_t, ic_eq_f, ic_eq_t, ic_im, ic_mi, ic_mm_t, ic_mm_f, ic_mlt, ic_mle, ic_ilem, ic_iltm, ic_mmle_t, ic_mmle_f, pu_add, pu_mul, pu_in, pu_ck, pu_let, pu_cl, pu_cpok, pu_inr, Option.bind_some, ite_true, ite_false])
    rw [placeOf_ok (c := h + 3) c.2.1 v.i8 hi, Option.bind_some]
    by_cases z : i ∈ H.P
    · rw [if_pos z, if_pos (mayA_t q z)]
      have hk : plA H.P i ≤ H.P.length := List.findIdx_le_length
      have h8 := c.2.1.2.1
      ((try simp only [li_0, li_1, li_2, li_3, li_4, li_5, li_6, li_7, li_8, li_9, li_10, li_11, li_12, li_13, li_14, li_15, li_16, li_17, li_18, li_19, li_20, li_30, li_31, li_32, li_33, li_40, li_41, li_42, li_43, li_45, li_48, li_56, li_57, li_59, li_60, li_61, li_64, li_91, li_97, li_99, li_100, li_122, li_150, li_160, li_200, li_201, li_255, li_300, li_303, li_304, li_305, li_306, li_312, li_400, li_500, li_999, li_1003, li_3099, li_99999, li_100000, li_neg]); simp (disch := omega) only [ic_le_f, ic_le_t, ic_lt_f, ic_lt_t, ic_eq_f, ic_eq_t, ic_im, ic_mi, ic_mm_t, ic_mm_f, ic_mlt, ic_mle, ic_ilem, ic_iltm, ic_mmle_t, ic_mmle_f, pu_add, pu_mul, pu_in, pu_ck, pu_let, pu_cl, pu_cpok, pu_inr, Option.bind_some, ite_true, ite_false])
    · rw [if_neg z, if_neg (fun y => z (mayA_o y).2)]
      ((try simp only [li_0, li_1, li_2, li_3, li_4, li_5, li_6, li_7, li_8, li_9, li_10, li_11, li_12, li_13, li_14, li_15, li_16, li_17, li_18, li_19, li_20, li_30, li_31, li_32, li_33, li_40, li_41, li_42, li_43, li_45, li_48, li_56, li_57, li_59, li_60, li_61, li_64, li_91, li_97, li_99, li_100, li_122, li_150, li_160, li_200, li_201, li_255, li_300, li_303, li_304, li_305, li_306, li_312, li_400, li_500, li_999, li_1003, li_3099, li_99999, li_100000, li_neg]); simp (disch := omega) only [ic_le_f, ic_le_t, ic_lt_f, ic_lt_t, ic_eq_f, ic_eq_t, ic_im, ic_mi, ic_mm_t, ic_mm_f, ic_mlt, ic_mle, ic_ilem, ic_iltm, ic_mmle_t, ic_mmle_f, pu_add, pu_mul, pu_in, pu_ck, pu_let, pu_cl, pu_cpok, pu_inr, Option.bind_some, ite_true, ite_false])
  · rw [if_neg (fun y => q (mayA_o y).1)]
    ((try simp only [li_0, li_1, li_2, li_3, li_4, li_5, li_6, li_7, li_8, li_9, li_10, li_11, li_12, li_13, li_14, li_15, li_16, li_17, li_18, li_19, li_20, li_30, li_31, li_32, li_33, li_40, li_41, li_42, li_43, li_45, li_48, li_56, li_57, li_59, li_60, li_61, li_64, li_91, li_97, li_99, li_100, li_122, li_150, li_160, li_200, li_201, li_255, li_300, li_303, li_304, li_305, li_306, li_312, li_400, li_500, li_999, li_1003, li_3099, li_99999, li_100000, li_neg]); simp (disch := omega) only [ic_le_f, ic_le_t, ic_lt_f, ic_lt_t, ic_eq_f, ic_eq_t, ic_im, ic_mi, ic_mm_t, ic_mm_f, ic_mlt, ic_mle, ic_ilem, ic_iltm, ic_mmle_t, ic_mmle_f, pu_add, pu_mul, pu_in, pu_ck, pu_let, pu_cl, pu_cpok, pu_inr, Option.bind_some, ite_true, ite_false])
theorem kturnsOver {m : qaM} {h i : Nat} {H : HS} (c : CH m h H) (v : HV H) (hi : i < 8) : ∃ m2, f_X0_turnsOver h m (nI i) = some m2 ∧ CH m2 h (turnA H i) ∧ qF [h + 2] m m2 := by
  have a2 := (v.av i).2.2.1
  obtain ⟨m2, e1, e2, e3⟩ := cnotes (k := 2) (v := H.A i 2 / 2) c hi (by omega) (fun z => by omega)
  obtain ⟨m3, g1, g2, g3⟩ := cnotes (k := 5) (v := 1) e2 hi (by omega) (fun z => by omega)
  rw [setA_s, setA_2] at g2
  refine ⟨m3, ?_, g2, e3.t2 g3 (fun _ z => z)⟩
  unfold f_X0_turnsOver
  simp only [li_0, li_1, li_2, li_3, li_4, li_5, li_6, li_7, li_8, li_9, li_10, li_11, li_12, li_13, li_14, li_15, li_16, li_17, li_18, li_19, li_20, li_30, li_31, li_32, li_33, li_40, li_41, li_42, li_43, li_45, li_48, li_56, li_57, li_59, li_60, li_61, li_64, li_91, li_97, li_99, li_100, li_122, li_150, li_160, li_200, li_201, li_255, li_300, li_303, li_304, li_305, li_306, li_312, li_400, li_500, li_999, li_1003, li_3099, li_99999, li_100000, li_neg]
  rw [cfact c hi (by omega) (by omega), Option.bind_some, pk_div (by omega) (by omega) (by omega), e1, Option.bind_some, g1, Option.bind_some]
theorem r7placeOf {m : qaM} {i : Nat} {H : HS} (c : MH m H) (v : HV H) (hi : i < 8) : f_X7_placeOf m (nI i) = some (if i ∈ H.P then nI (plA H.P i) else nM 1) := by
  have h8 := c.2.1.2.1
  obtain ⟨r, h1, h2⟩ := lp_at (f := fun s : Int32 => b_X7_placeOf_2 m (nI i) s) (fun j s => s = nI j ∧ ∀ a : Nat, a < j → H.P.getD a 0 ≠ i) (fun r => r = if i ∈ H.P then nI (plA H.P i) else nM 1) H.P.length (s := (0 : Int32)) ⟨rfl, fun a h => by omega⟩ (by omega) (by
    rintro j s hj ⟨rfl, hne⟩
    unfold b_X7_placeOf_2
    rw [c.2.1.1]
    rcases Nat.lt_or_ge j H.P.length with q | q
    · have hx := v.i8 _ (getD_mem q)
      by_cases he : H.P.getD j 0 = i
      · have hm : i ∈ H.P := he ▸ getD_mem q
        have hp : plA H.P i = j := by
          unfold plA
          rw [List.findIdx_eq q]
          refine ⟨?_, fun a ha => ?_⟩
          · rw [List.getD_eq_getElem?_getD, List.getElem?_eq_getElem q] at he
            simpa using he
          · have := hne a ha
            rw [List.getD_eq_getElem?_getD, List.getElem?_eq_getElem (by omega)] at this
            simpa using this
        refine Or.inr ⟨_, ?_, rfl⟩
        rw [if_pos hm, hp]
        ((try simp only [li_0, li_1, li_2, li_3, li_4, li_5, li_6, li_7, li_8, li_9, li_10, li_11, li_12, li_13, li_14, li_15, li_16, li_17, li_18, li_19, li_20, li_30, li_31, li_32, li_33, li_40, li_41, li_42, li_43, li_45, li_48, li_56, li_57, li_59, li_60, li_61, li_64, li_91, li_97, li_99, li_100, li_122, li_150, li_160, li_200, li_201, li_255, li_300, li_303, li_304, li_305, li_306, li_312, li_400, li_500, li_999, li_1003, li_3099, li_99999, li_100000, li_neg]); simp (disch := omega) only [ic_le_f, ic_le_t, ic_lt_f, ic_lt_t, ic_eq_f, ic_eq_t, ic_im, ic_mi, ic_mm_t, ic_mm_f, ic_mlt, ic_mle, ic_ilem, ic_iltm, ic_mmle_t, ic_mmle_f, pu_add, pu_mul, pu_in, pu_ck, pu_let, pu_cl, pu_cpok, pu_inr, Option.bind_some, ite_true, ite_false])
        rw [c.2.1.2.2 j q, he]
        ((try simp only [li_0, li_1, li_2, li_3, li_4, li_5, li_6, li_7, li_8, li_9, li_10, li_11, li_12, li_13, li_14, li_15, li_16, li_17, li_18, li_19, li_20, li_30, li_31, li_32, li_33, li_40, li_41, li_42, li_43, li_45, li_48, li_56, li_57, li_59, li_60, li_61, li_64, li_91, li_97, li_99, li_100, li_122, li_150, li_160, li_200, li_201, li_255, li_300, li_303, li_304, li_305, li_306, li_312, li_400, li_500, li_999, li_1003, li_3099, li_99999, li_100000, li_neg]); simp (disch := omega) only [ic_le_f, ic_le_t, ic_lt_f, ic_lt_t, ic_eq_f, ic_eq_t, ic_im, ic_mi, ic_mm_t, ic_mm_f, ic_mlt, ic_mle, ic_ilem, ic_iltm, ic_mmle_t, ic_mmle_f, pu_add, pu_mul, pu_in, pu_ck, pu_let, pu_cl, pu_cpok, pu_inr, Option.bind_some, ite_true, ite_false])
      · refine Or.inl ⟨nI (j + 1), ?_, q, rfl, fun a ha => ?_⟩
        · ((try simp only [li_0, li_1, li_2, li_3, li_4, li_5, li_6, li_7, li_8, li_9, li_10, li_11, li_12, li_13, li_14, li_15, li_16, li_17, li_18, li_19, li_20, li_30, li_31, li_32, li_33, li_40, li_41, li_42, li_43, li_45, li_48, li_56, li_57, li_59, li_60, li_61, li_64, li_91, li_97, li_99, li_100, li_122, li_150, li_160, li_200, li_201, li_255, li_300, li_303, li_304, li_305, li_306, li_312, li_400, li_500, li_999, li_1003, li_3099, li_99999, li_100000, li_neg]); simp (disch := omega) only [ic_le_f, ic_le_t, ic_lt_f, ic_lt_t, ic_eq_f, ic_eq_t, ic_im, ic_mi, ic_mm_t, ic_mm_f, ic_mlt, ic_mle, ic_ilem, ic_iltm, ic_mmle_t, ic_mmle_f, pu_add, pu_mul, pu_in, pu_ck, pu_let, pu_cl, pu_cpok, pu_inr, Option.bind_some, ite_true, ite_false])
          rw [c.2.1.2.2 j q]
          ((try simp only [li_0, li_1, li_2, li_3, li_4, li_5, li_6, li_7, li_8, li_9, li_10, li_11, li_12, li_13, li_14, li_15, li_16, li_17, li_18, li_19, li_20, li_30, li_31, li_32, li_33, li_40, li_41, li_42, li_43, li_45, li_48, li_56, li_57, li_59, li_60, li_61, li_64, li_91, li_97, li_99, li_100, li_122, li_150, li_160, li_200, li_201, li_255, li_300, li_303, li_304, li_305, li_306, li_312, li_400, li_500, li_999, li_1003, li_3099, li_99999, li_100000, li_neg]); simp (disch := omega) only [ic_le_f, ic_le_t, ic_lt_f, ic_lt_t, ic_eq_f, ic_eq_t, ic_im, ic_mi, ic_mm_t, ic_mm_f, ic_mlt, ic_mle, ic_ilem, ic_iltm, ic_mmle_t, ic_mmle_f, pu_add, pu_mul, pu_in, pu_ck, pu_let, pu_cl, pu_cpok, pu_inr, Option.bind_some, ite_true, ite_false])
        · rcases Nat.lt_or_ge a j with q2 | q2
          · exact hne a q2
          · rw [show a = j by omega]
            exact he
    · have hm : ¬ i ∈ H.P := by
        intro hm
        obtain ⟨a, ha, e⟩ := List.getElem_of_mem hm
        refine hne a (by omega) ?_
        rw [List.getD_eq_getElem?_getD, List.getElem?_eq_getElem ha]
        exact e
      refine Or.inr ⟨_, ?_, rfl⟩
      rw [if_neg hm]
      ((try simp only [li_0, li_1, li_2, li_3, li_4, li_5, li_6, li_7, li_8, li_9, li_10, li_11, li_12, li_13, li_14, li_15, li_16, li_17, li_18, li_19, li_20, li_30, li_31, li_32, li_33, li_40, li_41, li_42, li_43, li_45, li_48, li_56, li_57, li_59, li_60, li_61, li_64, li_91, li_97, li_99, li_100, li_122, li_150, li_160, li_200, li_201, li_255, li_300, li_303, li_304, li_305, li_306, li_312, li_400, li_500, li_999, li_1003, li_3099, li_99999, li_100000, li_neg]); simp (disch := omega) only [ic_le_f, ic_le_t, ic_lt_f, ic_lt_t, ic_eq_f, ic_eq_t, ic_im, ic_mi, ic_mm_t, ic_mm_f, ic_mlt, ic_mle, ic_ilem, ic_iltm, ic_mmle_t, ic_mmle_f, pu_add, pu_mul, pu_in, pu_ck, pu_let, pu_cl, pu_cpok, pu_inr, Option.bind_some, ite_true, ite_false]))
  rw [f_X7_placeOf, lp_X7_placeOf_2, h1, h2]
theorem r7mayTurn {m : qaM} {i : Nat} {H : HS} (c : MH m H) (v : HV H) (hi : i < H.n) : f_X7_mayTurn m (nI i) = some (if mayA H i = true then nI 1 else nI 0) := by
  have n8 := v.n8
  have a5 := (v.av i).2.2.2.2.2.1
  have r3 : m 39 (6 * i + 3) = nI (H.A i 5) := r7row c hi (k := 3) (by omega) (by omega)
  unfold f_X7_mayTurn
  ((try simp only [li_0, li_1, li_2, li_3, li_4, li_5, li_6, li_7, li_8, li_9, li_10, li_11, li_12, li_13, li_14, li_15, li_16, li_17, li_18, li_19, li_20, li_30, li_31, li_32, li_33, li_40, li_41, li_42, li_43, li_45, li_48, li_56, li_57, li_59, li_60, li_61, li_64, li_91, li_97, li_99, li_100, li_122, li_150, li_160, li_200, li_201, li_255, li_300, li_303, li_304, li_305, li_306, li_312, li_400, li_500, li_999, li_1003, li_3099, li_99999, li_100000, li_neg]); simp (disch := omega) only [ic_le_f, ic_le_t, ic_lt_f, ic_lt_t, ic_eq_f, ic_eq_t, ic_im, ic_mi, ic_mm_t, ic_mm_f, ic_mlt, ic_mle, ic_ilem, ic_iltm, ic_mmle_t, ic_mmle_f, pu_add, pu_mul, pu_in, pu_ck, pu_let, pu_cl, pu_cpok, pu_inr, Option.bind_some, ite_true, ite_false])
  rw [r3]
  by_cases q : H.A i 5 = 0
  · rw [q]
    ((try simp only [li_0, li_1, li_2, li_3, li_4, li_5, li_6, li_7, li_8, li_9, li_10, li_11, li_12, li_13, li_14, li_15, li_16, li_17, li_18, li_19, li_20, li_30, li_31, li_32, li_33, li_40, li_41, li_42, li_43, li_45, li_48, li_56, li_57, li_59, li_60, li_61, li_64, li_91, li_97, li_99, li_100, li_122, li_150, li_160, li_200, li_201, li_255, li_300, li_303, li_304, li_305, li_306, li_312, li_400, li_500, li_999, li_1003, li_3099, li_99999, li_100000, li_neg]); simp (disch := omega) only [ic_le_f, ic_le_t, ic_lt_f, ic_lt_t, ic_eq_f, ic_eq_t, ic_im, ic_mi, ic_mm_t, ic_mm_f, ic_mlt, ic_mle, ic_ilem, ic_iltm, ic_mmle_t, ic_mmle_f, pu_add, pu_mul, pu_in, pu_ck, pu_let, pu_cl, pu_cpok, pu_inr, Option.bind_some, ite_true, ite_false])
    rw [r7placeOf c v (by omega), Option.bind_some]
    by_cases z : i ∈ H.P
    · rw [if_pos z, if_pos (mayA_t q z)]
      have hk : plA H.P i ≤ H.P.length := List.findIdx_le_length
      have h8 := c.2.1.2.1
      ((try simp only [li_0, li_1, li_2, li_3, li_4, li_5, li_6, li_7, li_8, li_9, li_10, li_11, li_12, li_13, li_14, li_15, li_16, li_17, li_18, li_19, li_20, li_30, li_31, li_32, li_33, li_40, li_41, li_42, li_43, li_45, li_48, li_56, li_57, li_59, li_60, li_61, li_64, li_91, li_97, li_99, li_100, li_122, li_150, li_160, li_200, li_201, li_255, li_300, li_303, li_304, li_305, li_306, li_312, li_400, li_500, li_999, li_1003, li_3099, li_99999, li_100000, li_neg]); simp (disch := omega) only [ic_le_f, ic_le_t, ic_lt_f, ic_lt_t, ic_eq_f, ic_eq_t, ic_im, ic_mi, ic_mm_t, ic_mm_f, ic_mlt, ic_mle, ic_ilem, ic_iltm, ic_mmle_t, ic_mmle_f, pu_add, pu_mul, pu_in, pu_ck, pu_let, pu_cl, pu_cpok, pu_inr, Option.bind_some, ite_true, ite_false])
    · rw [if_neg z, if_neg (fun y => z (mayA_o y).2)]
      ((try simp only [li_0, li_1, li_2, li_3, li_4, li_5, li_6, li_7, li_8, li_9, li_10, li_11, li_12, li_13, li_14, li_15, li_16, li_17, li_18, li_19, li_20, li_30, li_31, li_32, li_33, li_40, li_41, li_42, li_43, li_45, li_48, li_56, li_57, li_59, li_60, li_61, li_64, li_91, li_97, li_99, li_100, li_122, li_150, li_160, li_200, li_201, li_255, li_300, li_303, li_304, li_305, li_306, li_312, li_400, li_500, li_999, li_1003, li_3099, li_99999, li_100000, li_neg]); simp (disch := omega) only [ic_le_f, ic_le_t, ic_lt_f, ic_lt_t, ic_eq_f, ic_eq_t, ic_im, ic_mi, ic_mm_t, ic_mm_f, ic_mlt, ic_mle, ic_ilem, ic_iltm, ic_mmle_t, ic_mmle_f, pu_add, pu_mul, pu_in, pu_ck, pu_let, pu_cl, pu_cpok, pu_inr, Option.bind_some, ite_true, ite_false])
  · rw [if_neg (fun y => q (mayA_o y).1)]
    ((try simp only [li_0, li_1, li_2, li_3, li_4, li_5, li_6, li_7, li_8, li_9, li_10, li_11, li_12, li_13, li_14, li_15, li_16, li_17, li_18, li_19, li_20, li_30, li_31, li_32, li_33, li_40, li_41, li_42, li_43, li_45, li_48, li_56, li_57, li_59, li_60, li_61, li_64, li_91, li_97, li_99, li_100, li_122, li_150, li_160, li_200, li_201, li_255, li_300, li_303, li_304, li_305, li_306, li_312, li_400, li_500, li_999, li_1003, li_3099, li_99999, li_100000, li_neg]); simp (disch := omega) only [ic_le_f, ic_le_t, ic_lt_f, ic_lt_t, ic_eq_f, ic_eq_t, ic_im, ic_mi, ic_mm_t, ic_mm_f, ic_mlt, ic_mle, ic_ilem, ic_iltm, ic_mmle_t, ic_mmle_f, pu_add, pu_mul, pu_in, pu_ck, pu_let, pu_cl, pu_cpok, pu_inr, Option.bind_some, ite_true, ite_false])
theorem r7turns {m : qaM} {i : Nat} {H : HS} (c : MH m H) (v : HV H) (hi : i < H.n) : ∃ m2, f_X7_turns m (nI i) = some m2 ∧ MH m2 (turnA H i) ∧ qF [39] m m2 := by
  have n8 := v.n8
  have a2 := (v.av i).2.2.1
  have r0 : m 39 (6 * i) = nI (H.A i 2) := r7row c hi (k := 0) (by omega) (by omega)
  have c1 : MH (qa_st m 39 (6 * i) (nI (H.A i 2 / 2))) (H.setA i (aU (H.A i) 2 (H.A i 2 / 2))) := r7set c (k := 0) (by omega) (by omega)
  have c2 := r7set c1 (i := i) (k := 3) (v := 1) (by omega) (by omega)
  rw [setA_s, setA_2] at c2
  refine ⟨_, ?_, c2, ((qF.rf _ m).stl (by simp)).stl (by simp)⟩
  unfold f_X7_turns
  ((try simp only [li_0, li_1, li_2, li_3, li_4, li_5, li_6, li_7, li_8, li_9, li_10, li_11, li_12, li_13, li_14, li_15, li_16, li_17, li_18, li_19, li_20, li_30, li_31, li_32, li_33, li_40, li_41, li_42, li_43, li_45, li_48, li_56, li_57, li_59, li_60, li_61, li_64, li_91, li_97, li_99, li_100, li_122, li_150, li_160, li_200, li_201, li_255, li_300, li_303, li_304, li_305, li_306, li_312, li_400, li_500, li_999, li_1003, li_3099, li_99999, li_100000, li_neg]); simp (disch := omega) only [ic_le_f, ic_le_t, ic_lt_f, ic_lt_t, ic_eq_f, ic_eq_t, ic_im, ic_mi, ic_mm_t, ic_mm_f, ic_mlt, ic_mle, ic_ilem, ic_iltm, ic_mmle_t, ic_mmle_f, pu_add, pu_mul, pu_in, pu_ck, pu_let, pu_cl, pu_cpok, pu_inr, Option.bind_some, ite_true, ite_false])
  rw [r0, pk_div (by omega) (by omega) (by omega)]
theorem qp_turn : qaP_turn Rel := by
  intro m a h
  obtain ⟨H, N, S, hD⟩ := h
  have ⟨c, r, v, hl, hw, t, _, _, _, nt⟩ := hD
  have n8 := v.n8
  have hno : f_X6_isLinen m a = some (nI 0) → f_X7_isLinen m a = some (nI 0) → ∃ x m1 m2, f_X6_turn m a = some (x, m1) ∧ f_X7_turn m1 a = some (x, m2) ∧ Rel m2 := by
    intro e1 e2
    refine ⟨nM 5, m, m, ?_, ?_, Rel.mk hD⟩
    · unfold f_X6_turn
      rw [e1]
      ((try simp only [li_0, li_1, li_2, li_3, li_4, li_5, li_6, li_7, li_8, li_9, li_10, li_11, li_12, li_13, li_14, li_15, li_16, li_17, li_18, li_19, li_20, li_30, li_31, li_32, li_33, li_40, li_41, li_42, li_43, li_45, li_48, li_56, li_57, li_59, li_60, li_61, li_64, li_91, li_97, li_99, li_100, li_122, li_150, li_160, li_200, li_201, li_255, li_300, li_303, li_304, li_305, li_306, li_312, li_400, li_500, li_999, li_1003, li_3099, li_99999, li_100000, li_neg]); simp (disch := omega) only [ic_le_f, ic_le_t, ic_lt_f, ic_lt_t, ic_eq_f, ic_eq_t, ic_im, ic_mi, ic_mm_t, ic_mm_f, ic_mlt, ic_mle, ic_ilem, ic_iltm, ic_mmle_t, ic_mmle_f, pu_add, pu_mul, pu_in, pu_ck, pu_let, pu_cl, pu_cpok, pu_inr, Option.bind_some, ite_true, ite_false])
    · unfold f_X7_turn
      rw [e2]
      ((try simp only [li_0, li_1, li_2, li_3, li_4, li_5, li_6, li_7, li_8, li_9, li_10, li_11, li_12, li_13, li_14, li_15, li_16, li_17, li_18, li_19, li_20, li_30, li_31, li_32, li_33, li_40, li_41, li_42, li_43, li_45, li_48, li_56, li_57, li_59, li_60, li_61, li_64, li_91, li_97, li_99, li_100, li_122, li_150, li_160, li_200, li_201, li_255, li_300, li_303, li_304, li_305, li_306, li_312, li_400, li_500, li_999, li_1003, li_3099, li_99999, li_100000, li_neg]); simp (disch := omega) only [ic_le_f, ic_le_t, ic_lt_f, ic_lt_t, ic_eq_f, ic_eq_t, ic_im, ic_mi, ic_mm_t, ic_mm_f, ic_mlt, ic_mle, ic_ilem, ic_iltm, ic_mmle_t, ic_mmle_f, pu_add, pu_mul, pu_in, pu_ck, pu_let, pu_cl, pu_cpok, pu_inr, Option.bind_some, ite_true, ite_false])
  rcases anyI a with q | ⟨i, hi, rfl⟩
  · exact hno (kisLinen_n q) (r7isLinen_n q)
  by_cases z : i < H.n
  rotate_left
  · exact hno (by rw [kisLinen c hi, if_neg z]) (by rw [r7isLinen r n8 hi, if_neg z])
  have e1 : f_X6_isLinen m (nI i) = some (nI 1) := by rw [kisLinen c hi, if_pos z]
  have hi8 : i < 8 := by omega
  by_cases qm : mayA H i = true
  · obtain ⟨m1, g1, g2, g3⟩ := kturnsOver c v hi8
    have r1 : MH m1 H := r.cl g3 (by simp)
    obtain ⟨m2, k1, k2, k3⟩ := r7turns r1 v z
    refine ⟨nI (H.A i 2 / 2), m1, m2, ?_, ?_, ?_⟩
    · unfold f_X6_turn
      rw [e1]
      ((try simp only [li_0, li_1, li_2, li_3, li_4, li_5, li_6, li_7, li_8, li_9, li_10, li_11, li_12, li_13, li_14, li_15, li_16, li_17, li_18, li_19, li_20, li_30, li_31, li_32, li_33, li_40, li_41, li_42, li_43, li_45, li_48, li_56, li_57, li_59, li_60, li_61, li_64, li_91, li_97, li_99, li_100, li_122, li_150, li_160, li_200, li_201, li_255, li_300, li_303, li_304, li_305, li_306, li_312, li_400, li_500, li_999, li_1003, li_3099, li_99999, li_100000, li_neg]); simp (disch := omega) only [ic_le_f, ic_le_t, ic_lt_f, ic_lt_t, ic_eq_f, ic_eq_t, ic_im, ic_mi, ic_mm_t, ic_mm_f, ic_mlt, ic_mle, ic_ilem, ic_iltm, ic_mmle_t, ic_mmle_f, pu_add, pu_mul, pu_in, pu_ck, pu_let, pu_cl, pu_cpok, pu_inr, Option.bind_some, ite_true, ite_false])
      rw [kcanTurn c v hi8, if_pos qm]
      ((try simp only [li_0, li_1, li_2, li_3, li_4, li_5, li_6, li_7, li_8, li_9, li_10, li_11, li_12, li_13, li_14, li_15, li_16, li_17, li_18, li_19, li_20, li_30, li_31, li_32, li_33, li_40, li_41, li_42, li_43, li_45, li_48, li_56, li_57, li_59, li_60, li_61, li_64, li_91, li_97, li_99, li_100, li_122, li_150, li_160, li_200, li_201, li_255, li_300, li_303, li_304, li_305, li_306, li_312, li_400, li_500, li_999, li_1003, li_3099, li_99999, li_100000, li_neg]); simp (disch := omega) only [ic_le_f, ic_le_t, ic_lt_f, ic_lt_t, ic_eq_f, ic_eq_t, ic_im, ic_mi, ic_mm_t, ic_mm_f, ic_mlt, ic_mle, ic_ilem, ic_iltm, ic_mmle_t, ic_mmle_f, pu_add, pu_mul, pu_in, pu_ck, pu_let, pu_cl, pu_cpok, pu_inr, Option.bind_some, ite_true, ite_false])
      rw [g1, Option.bind_some, cfact (h := 8) g2 hi8 (by omega) (by omega), Option.bind_some]
      unfold turnA
      rw [setA_s, aU_n (by omega), aU_s]
    · have e2 : f_X7_isLinen m1 (nI i) = some (nI 1) := by rw [r7isLinen r1 n8 hi, if_pos z]
      have r0 : m2 39 (6 * i) = nI ((turnA H i).A i 2) := r7row k2 (i := i) z (k := 0) (by omega) (by omega)
      unfold f_X7_turn
      rw [e2]
      ((try simp only [li_0, li_1, li_2, li_3, li_4, li_5, li_6, li_7, li_8, li_9, li_10, li_11, li_12, li_13, li_14, li_15, li_16, li_17, li_18, li_19, li_20, li_30, li_31, li_32, li_33, li_40, li_41, li_42, li_43, li_45, li_48, li_56, li_57, li_59, li_60, li_61, li_64, li_91, li_97, li_99, li_100, li_122, li_150, li_160, li_200, li_201, li_255, li_300, li_303, li_304, li_305, li_306, li_312, li_400, li_500, li_999, li_1003, li_3099, li_99999, li_100000, li_neg]); simp (disch := omega) only [ic_le_f, ic_le_t, ic_lt_f, ic_lt_t, ic_eq_f, ic_eq_t, ic_im, ic_mi, ic_mm_t, ic_mm_f, ic_mlt, ic_mle, ic_ilem, ic_iltm, ic_mmle_t, ic_mmle_f, pu_add, pu_mul, pu_in, pu_ck, pu_let, pu_cl, pu_cpok, pu_inr, Option.bind_some, ite_true, ite_false])
      rw [r7mayTurn r1 v z, if_pos qm]
      ((try simp only [li_0, li_1, li_2, li_3, li_4, li_5, li_6, li_7, li_8, li_9, li_10, li_11, li_12, li_13, li_14, li_15, li_16, li_17, li_18, li_19, li_20, li_30, li_31, li_32, li_33, li_40, li_41, li_42, li_43, li_45, li_48, li_56, li_57, li_59, li_60, li_61, li_64, li_91, li_97, li_99, li_100, li_122, li_150, li_160, li_200, li_201, li_255, li_300, li_303, li_304, li_305, li_306, li_312, li_400, li_500, li_999, li_1003, li_3099, li_99999, li_100000, li_neg]); simp (disch := omega) only [ic_le_f, ic_le_t, ic_lt_f, ic_lt_t, ic_eq_f, ic_eq_t, ic_im, ic_mi, ic_mm_t, ic_mm_f, ic_mlt, ic_mle, ic_ilem, ic_iltm, ic_mmle_t, ic_mmle_f, pu_add, pu_mul, pu_in, pu_ck, pu_let, pu_cl, pu_cpok, pu_inr, Option.bind_some, ite_true, ite_false])
      rw [k1]
      ((try simp only [li_0, li_1, li_2, li_3, li_4, li_5, li_6, li_7, li_8, li_9, li_10, li_11, li_12, li_13, li_14, li_15, li_16, li_17, li_18, li_19, li_20, li_30, li_31, li_32, li_33, li_40, li_41, li_42, li_43, li_45, li_48, li_56, li_57, li_59, li_60, li_61, li_64, li_91, li_97, li_99, li_100, li_122, li_150, li_160, li_200, li_201, li_255, li_300, li_303, li_304, li_305, li_306, li_312, li_400, li_500, li_999, li_1003, li_3099, li_99999, li_100000, li_neg]); simp (disch := omega) only [ic_le_f, ic_le_t, ic_lt_f, ic_lt_t, ic_eq_f, ic_eq_t, ic_im, ic_mi, ic_mm_t, ic_mm_f, ic_mlt, ic_mle, ic_ilem, ic_iltm, ic_mmle_t, ic_mmle_f, pu_add, pu_mul, pu_in, pu_ck, pu_let, pu_cl, pu_cpok, pu_inr, Option.bind_some, ite_true, ite_false])
      rw [r0]
      unfold turnA
      rw [setA_s, aU_n (by omega), aU_s]
    · refine Rel.mut hD ((g3.mo (by simp)).t2 k3 (by simp)) (o36l.q (k := _) ((g3.mo (l := [10, 39]) (by simp)).t2 k3 (by simp)) (by simp)) (g2.rf k3 (by omega) (by simp)) k2 (turnA_V v z) hl hw (Nat.le_refl _) (fun j _ => ?_) (nt.F ((k3 8 (by decide)).trans (g3 8 (by decide))) rfl)
      unfold turnA
      by_cases q : j = i
      · rw [q, setA_s, aU_n (by omega), aU_n (by omega), aU_n (by omega), aU_n (by omega)]
        exact ⟨rfl, rfl⟩
      · rw [setA_n q]
        exact ⟨rfl, rfl⟩
  · refine ⟨nM 3, m, m, ?_, ?_, Rel.mk hD⟩
    · unfold f_X6_turn
      rw [e1]
      ((try simp only [li_0, li_1, li_2, li_3, li_4, li_5, li_6, li_7, li_8, li_9, li_10, li_11, li_12, li_13, li_14, li_15, li_16, li_17, li_18, li_19, li_20, li_30, li_31, li_32, li_33, li_40, li_41, li_42, li_43, li_45, li_48, li_56, li_57, li_59, li_60, li_61, li_64, li_91, li_97, li_99, li_100, li_122, li_150, li_160, li_200, li_201, li_255, li_300, li_303, li_304, li_305, li_306, li_312, li_400, li_500, li_999, li_1003, li_3099, li_99999, li_100000, li_neg]); simp (disch := omega) only [ic_le_f, ic_le_t, ic_lt_f, ic_lt_t, ic_eq_f, ic_eq_t, ic_im, ic_mi, ic_mm_t, ic_mm_f, ic_mlt, ic_mle, ic_ilem, ic_iltm, ic_mmle_t, ic_mmle_f, pu_add, pu_mul, pu_in, pu_ck, pu_let, pu_cl, pu_cpok, pu_inr, Option.bind_some, ite_true, ite_false])
      rw [kcanTurn c v hi8, if_neg qm]
      ((try simp only [li_0, li_1, li_2, li_3, li_4, li_5, li_6, li_7, li_8, li_9, li_10, li_11, li_12, li_13, li_14, li_15, li_16, li_17, li_18, li_19, li_20, li_30, li_31, li_32, li_33, li_40, li_41, li_42, li_43, li_45, li_48, li_56, li_57, li_59, li_60, li_61, li_64, li_91, li_97, li_99, li_100, li_122, li_150, li_160, li_200, li_201, li_255, li_300, li_303, li_304, li_305, li_306, li_312, li_400, li_500, li_999, li_1003, li_3099, li_99999, li_100000, li_neg]); simp (disch := omega) only [ic_le_f, ic_le_t, ic_lt_f, ic_lt_t, ic_eq_f, ic_eq_t, ic_im, ic_mi, ic_mm_t, ic_mm_f, ic_mlt, ic_mle, ic_ilem, ic_iltm, ic_mmle_t, ic_mmle_f, pu_add, pu_mul, pu_in, pu_ck, pu_let, pu_cl, pu_cpok, pu_inr, Option.bind_some, ite_true, ite_false])
    · have e2 : f_X7_isLinen m (nI i) = some (nI 1) := by rw [r7isLinen r n8 hi, if_pos z]
      unfold f_X7_turn
      rw [e2]
      ((try simp only [li_0, li_1, li_2, li_3, li_4, li_5, li_6, li_7, li_8, li_9, li_10, li_11, li_12, li_13, li_14, li_15, li_16, li_17, li_18, li_19, li_20, li_30, li_31, li_32, li_33, li_40, li_41, li_42, li_43, li_45, li_48, li_56, li_57, li_59, li_60, li_61, li_64, li_91, li_97, li_99, li_100, li_122, li_150, li_160, li_200, li_201, li_255, li_300, li_303, li_304, li_305, li_306, li_312, li_400, li_500, li_999, li_1003, li_3099, li_99999, li_100000, li_neg]); simp (disch := omega) only [ic_le_f, ic_le_t, ic_lt_f, ic_lt_t, ic_eq_f, ic_eq_t, ic_im, ic_mi, ic_mm_t, ic_mm_f, ic_mlt, ic_mle, ic_ilem, ic_iltm, ic_mmle_t, ic_mmle_f, pu_add, pu_mul, pu_in, pu_ck, pu_let, pu_cl, pu_cpok, pu_inr, Option.bind_some, ite_true, ite_false])
      rw [r7mayTurn r v z, if_neg qm]
      ((try simp only [li_0, li_1, li_2, li_3, li_4, li_5, li_6, li_7, li_8, li_9, li_10, li_11, li_12, li_13, li_14, li_15, li_16, li_17, li_18, li_19, li_20, li_30, li_31, li_32, li_33, li_40, li_41, li_42, li_43, li_45, li_48, li_56, li_57, li_59, li_60, li_61, li_64, li_91, li_97, li_99, li_100, li_122, li_150, li_160, li_200, li_201, li_255, li_300, li_303, li_304, li_305, li_306, li_312, li_400, li_500, li_999, li_1003, li_3099, li_99999, li_100000, li_neg]); simp (disch := omega) only [ic_le_f, ic_le_t, ic_lt_f, ic_lt_t, ic_eq_f, ic_eq_t, ic_im, ic_mi, ic_mm_t, ic_mm_f, ic_mlt, ic_mle, ic_ilem, ic_iltm, ic_mmle_t, ic_mmle_f, pu_add, pu_mul, pu_in, pu_ck, pu_let, pu_cl, pu_cpok, pu_inr, Option.bind_some, ite_true, ite_false])
