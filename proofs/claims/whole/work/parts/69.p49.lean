/-! PURE: by all rules: rules -/
def rulV (H : HS) (k : Nat) : HS := (H.setR 2 (k / 3)).setR 3 (k % 3)
theorem rulV_V {H : HS} {k : Nat} (h : HV H) (hk : k < 12) : HV (rulV H k) := (h.setR (k := 2) (v := k / 3) (by simp; omega)).setR (k := 3) (v := k % 3) (by simp; omega)
theorem kbyRules {m0 m : qaM} {H : HS} {S : SF} {k n N : Nat} (c : CH m 8 H) (hv : HV H) (t : TXc m N S) (sv : SV S) (hN : H.lw < N) (hn : n ≤ 300) (hk : k < 12) (f : qF kL m0 m) :
    ∃ m1, f_X6_thinksByRules m (nI k) (nI n) = some m1 ∧ CY m1 20 (thk S n (rulV H k)) ∧ qF kL m0 m1 := by
  obtain ⟨m1, a1, a2, a3⟩ := kbeg c (qF.rf _ m)
  have a4 := (a2.setR (k := 2) (v := k / 3) (by omega)).setR (k := 3) (v := k % 3) (by omega)
  have f4 : qF kL m (qa_st (qa_st m1 25 2 (nI (k / 3))) 25 3 (nI (k % 3))) := (a3.stl (by simp [kL])).stl (by simp [kL])
  obtain ⟨m2, b1, b2, b3⟩ := kthk (n := n) a4 (rulV_V hv hk) (t.kL f4) sv hN hn f4
  refine ⟨m2, ?_, b2, f.t2 b3 (fun _ z => z)⟩
  unfold f_X6_thinksByRules
  rw [a1]
  ((try simp only [li_0, li_1, li_2, li_3, li_4, li_5, li_6, li_7, li_8, li_9, li_10, li_11, li_12, li_13, li_14, li_15, li_16, li_17, li_18, li_19, li_20, li_30, li_31, li_32, li_33, li_40, li_41, li_42, li_43, li_45, li_48, li_56, li_57, li_59, li_60, li_61, li_64, li_91, li_97, li_99, li_100, li_122, li_150, li_160, li_200, li_201, li_255, li_300, li_303, li_304, li_305, li_306, li_312, li_400, li_500, li_999, li_1003, li_3099, li_99999, li_100000, li_1000000, li_65, li_23, li_neg]); (try simp (disch := omega) only [ic_le_f, ic_le_t, ic_lt_f, ic_lt_t, ic_eq_f, ic_eq_t, ic_im, ic_mi, ic_mm_t, ic_mm_f, ic_mlt, ic_mle, ic_ilem, ic_iltm, ic_mmle_t, ic_mmle_f, pu_add, pu_mul, pu_in, pu_ck, pu_let, pu_cl, pu_cpok, pu_inr, Option.bind_some, ite_true, ite_false, pu_dm, pu_dv, pu_sub, nt_dm, if_true, if_false]))
  rw [b1, Option.bind_some]
theorem MH.rul {m : qaM} {H : HS} {a b k : Nat} (c : MH m ((H.setR 2 a).setR 3 b)) : MH (qa_st (qa_st m 41 2 (nI (k / 3))) 41 3 (nI (k % 3))) (rulV H k) := by
  refine ((c.setR (k := 2) (v := k / 3) (by omega)).setR (k := 3) (v := k % 3) (by omega)).cg rfl rfl rfl (fun j _ => ?_) rfl rfl
  show (if j = 3 then k % 3 else if j = 2 then k / 3 else H.R j) = (if j = 3 then k % 3 else if j = 2 then k / 3 else if j = 3 then b else if j = 2 then a else H.R j)
  by_cases q3 : j = 3
  · rw [if_pos q3, if_pos q3]
  · rw [if_neg q3, if_neg q3]
    by_cases q2 : j = 2
    · rw [if_pos q2, if_pos q2]
    · rw [if_neg q2, if_neg q2, if_neg q3, if_neg q2]
theorem MH.rul0 {m : qaM} {H : HS} (c : MH m H) : MH m ((H.setR 2 (H.R 2)).setR 3 (H.R 3)) := by
  refine c.cg rfl rfl rfl (fun j _ => ?_) rfl rfl
  show (if j = 3 then H.R 3 else if j = 2 then H.R 2 else H.R j) = H.R j
  by_cases q3 : j = 3
  · rw [if_pos q3, q3]
  · rw [if_neg q3]
    by_cases q2 : j = 2
    · rw [if_pos q2, q2]
    · rw [if_neg q2]
/-- the rules laid back -/
theorem MH.rulB {m : qaM} {H : HS} {a b : Nat} (c : MH m ((H.setR 2 a).setR 3 b)) : MH (qa_st (qa_st m 41 2 (nI (H.R 2))) 41 3 (nI (H.R 3))) H := by
  refine ((c.setR (k := 2) (v := H.R 2) (by omega)).setR (k := 3) (v := H.R 3) (by omega)).cg rfl rfl rfl (fun j _ => ?_) rfl rfl
  show H.R j = (if j = 3 then H.R 3 else if j = 2 then H.R 2 else if j = 3 then b else if j = 2 then a else H.R j)
  by_cases q3 : j = 3
  · rw [if_pos q3, q3]
  · rw [if_neg q3]
    by_cases q2 : j = 2
    · rw [if_pos q2, q2]
    · rw [if_neg q2, if_neg q3, if_neg q2]
/-- the first of the best, from 1 on -/
def bsF (mk : Nat → Int32) : Nat → Nat
  | 0 => 0
  | j + 1 => if bsF mk j = 0 ∨ ¬ mk j ≤ mk (bsF mk j - 1) then j + 1 else bsF mk j
theorem bsF_le (mk : Nat → Int32) (j : Nat) : bsF mk j ≤ j := by
  induction j with
  | zero => exact Nat.le_refl _
  | succ j ih =>
    unfold bsF
    split <;> omega
theorem bsF_pos (mk : Nat → Int32) (j : Nat) : 0 < bsF mk (j + 1) := by
  unfold bsF
  split <;> omega
def bmF (mk : Nat → Int32) (j : Nat) : Int32 := if bsF mk j = 0 then nI 0 else mk (bsF mk j - 1)
theorem bmF_t {mk : Nat → Int32} {j : Nat} (h : bsF mk (j + 1) = j + 1) : bmF mk (j + 1) = mk j := by
  unfold bmF
  rw [h, if_neg (by omega)]
  rfl
theorem bmF_k {mk : Nat → Int32} {j : Nat} (h : bsF mk (j + 1) = bsF mk j) : bmF mk (j + 1) = bmF mk j := by
  unfold bmF
  rw [h]
theorem kr61 {mk : Nat → Int32} {j : Nat} {x : qaM} {v1 v2 : Int32} (hj : j < 12) : b_X6_rules_61 x v1 v2 (plI (bsF mk j)) (bmF mk j) (nI j) (mk j) = some (.inl (x, plI (bsF mk (j + 1)), bmF mk (j + 1), nI (j + 1))) := by
  have hle := bsF_le mk j
  unfold b_X6_rules_61
  by_cases z : bsF mk j = 0
  · have hb : bsF mk (j + 1) = j + 1 := by rw [bsF, if_pos (Or.inl z)]
    rw [bmF_t hb, hb, z, plI_0, plI_s]
    ((try simp only [b_X6_rules_75, b_X6_rules_82, li_0, li_1, li_2, li_3, li_4, li_5, li_6, li_7, li_8, li_9, li_10, li_11, li_12, li_13, li_14, li_15, li_16, li_17, li_18, li_19, li_20, li_30, li_31, li_32, li_33, li_40, li_41, li_42, li_43, li_45, li_48, li_56, li_57, li_59, li_60, li_61, li_64, li_91, li_97, li_99, li_100, li_122, li_150, li_160, li_200, li_201, li_255, li_300, li_303, li_304, li_305, li_306, li_312, li_400, li_500, li_999, li_1003, li_3099, li_99999, li_100000, li_1000000, li_65, li_23, li_neg]); (try simp (disch := omega) only [b_X6_rules_75, b_X6_rules_82, ic_le_f, ic_le_t, ic_lt_f, ic_lt_t, ic_eq_f, ic_eq_t, ic_im, ic_mi, ic_mm_t, ic_mm_f, ic_mlt, ic_mle, ic_ilem, ic_iltm, ic_mmle_t, ic_mmle_f, pu_add, pu_mul, pu_in, pu_ck, pu_let, pu_cl, pu_cpok, pu_inr, Option.bind_some, ite_true, ite_false, pu_dm, pu_dv, pu_sub, nt_dm, if_true, if_false]))
  · obtain ⟨p, hp⟩ : ∃ p, bsF mk j = p + 1 := ⟨bsF mk j - 1, by omega⟩
    have hbm : bmF mk j = mk p := by
      unfold bmF
      rw [if_neg z, hp]
      rfl
    by_cases y : mk j ≤ mk p
    · have hb : bsF mk (j + 1) = bsF mk j := by
        rw [bsF, if_neg]
        rw [hp]
        rintro (w | w)
        · omega
        · exact w y
      rw [bmF_k hb, hb, hbm, hp, plI_s]
      ((try simp only [b_X6_rules_75, b_X6_rules_82, y, li_0, li_1, li_2, li_3, li_4, li_5, li_6, li_7, li_8, li_9, li_10, li_11, li_12, li_13, li_14, li_15, li_16, li_17, li_18, li_19, li_20, li_30, li_31, li_32, li_33, li_40, li_41, li_42, li_43, li_45, li_48, li_56, li_57, li_59, li_60, li_61, li_64, li_91, li_97, li_99, li_100, li_122, li_150, li_160, li_200, li_201, li_255, li_300, li_303, li_304, li_305, li_306, li_312, li_400, li_500, li_999, li_1003, li_3099, li_99999, li_100000, li_1000000, li_65, li_23, li_neg]); (try simp (disch := omega) only [b_X6_rules_75, b_X6_rules_82, y, ic_le_f, ic_le_t, ic_lt_f, ic_lt_t, ic_eq_f, ic_eq_t, ic_im, ic_mi, ic_mm_t, ic_mm_f, ic_mlt, ic_mle, ic_ilem, ic_iltm, ic_mmle_t, ic_mmle_f, pu_add, pu_mul, pu_in, pu_ck, pu_let, pu_cl, pu_cpok, pu_inr, Option.bind_some, ite_true, ite_false, pu_dm, pu_dv, pu_sub, nt_dm, if_true, if_false]))
    · have hb : bsF mk (j + 1) = j + 1 := by
        rw [bsF, if_pos]
        rw [hp]
        exact Or.inr y
      rw [bmF_t hb, hb, hbm, hp, plI_s, plI_s]
      ((try simp only [b_X6_rules_75, b_X6_rules_82, y, li_0, li_1, li_2, li_3, li_4, li_5, li_6, li_7, li_8, li_9, li_10, li_11, li_12, li_13, li_14, li_15, li_16, li_17, li_18, li_19, li_20, li_30, li_31, li_32, li_33, li_40, li_41, li_42, li_43, li_45, li_48, li_56, li_57, li_59, li_60, li_61, li_64, li_91, li_97, li_99, li_100, li_122, li_150, li_160, li_200, li_201, li_255, li_300, li_303, li_304, li_305, li_306, li_312, li_400, li_500, li_999, li_1003, li_3099, li_99999, li_100000, li_1000000, li_65, li_23, li_neg]); (try simp (disch := omega) only [b_X6_rules_75, b_X6_rules_82, y, ic_le_f, ic_le_t, ic_lt_f, ic_lt_t, ic_eq_f, ic_eq_t, ic_im, ic_mi, ic_mm_t, ic_mm_f, ic_mlt, ic_mle, ic_ilem, ic_iltm, ic_mmle_t, ic_mmle_f, pu_add, pu_mul, pu_in, pu_ck, pu_let, pu_cl, pu_cpok, pu_inr, Option.bind_some, ite_true, ite_false, pu_dm, pu_dv, pu_sub, nt_dm, if_true, if_false]))
/-- first, or n -/
def fnN (n fi : Nat) : Nat := if fi = 0 then n else fi - 1
theorem kmark {m : qaM} {X : TY} {n : Nat} (c : CY m 20 X) (v : TV X) (hf : X.2.2.2.1 < 2 ^ 30) : f_X6_markOfLasting m (nI n) = some (nI (lfH X.1.A X.1.n * 201 + fnN n X.2.2.2.1)) := by
  have g1 := kleft (h := 20) c.1 v.1
  have g2 := c.2.2.2.1
  unfold f_X6_markOfLasting fnN
  rw [g2]
  by_cases z : X.2.2.2.1 = 0
  · rw [z, plI_0, if_pos rfl]
    ((try simp only [b_X6_markOfLasting_22, li_0, li_1, li_2, li_3, li_4, li_5, li_6, li_7, li_8, li_9, li_10, li_11, li_12, li_13, li_14, li_15, li_16, li_17, li_18, li_19, li_20, li_30, li_31, li_32, li_33, li_40, li_41, li_42, li_43, li_45, li_48, li_56, li_57, li_59, li_60, li_61, li_64, li_91, li_97, li_99, li_100, li_122, li_150, li_160, li_200, li_201, li_255, li_300, li_303, li_304, li_305, li_306, li_312, li_400, li_500, li_999, li_1003, li_3099, li_99999, li_100000, li_1000000, li_65, li_23, li_neg]); (try simp (disch := omega) only [b_X6_markOfLasting_22, ic_le_f, ic_le_t, ic_lt_f, ic_lt_t, ic_eq_f, ic_eq_t, ic_im, ic_mi, ic_mm_t, ic_mm_f, ic_mlt, ic_mle, ic_ilem, ic_iltm, ic_mmle_t, ic_mmle_f, pu_add, pu_mul, pu_in, pu_ck, pu_let, pu_cl, pu_cpok, pu_inr, Option.bind_some, ite_true, ite_false, pu_dm, pu_dv, pu_sub, nt_dm, if_true, if_false]))
    rw [g1]
    ((try simp only [li_0, li_1, li_2, li_3, li_4, li_5, li_6, li_7, li_8, li_9, li_10, li_11, li_12, li_13, li_14, li_15, li_16, li_17, li_18, li_19, li_20, li_30, li_31, li_32, li_33, li_40, li_41, li_42, li_43, li_45, li_48, li_56, li_57, li_59, li_60, li_61, li_64, li_91, li_97, li_99, li_100, li_122, li_150, li_160, li_200, li_201, li_255, li_300, li_303, li_304, li_305, li_306, li_312, li_400, li_500, li_999, li_1003, li_3099, li_99999, li_100000, li_1000000, li_65, li_23, li_neg]); (try simp (disch := omega) only [ic_le_f, ic_le_t, ic_lt_f, ic_lt_t, ic_eq_f, ic_eq_t, ic_im, ic_mi, ic_mm_t, ic_mm_f, ic_mlt, ic_mle, ic_ilem, ic_iltm, ic_mmle_t, ic_mmle_f, pu_add, pu_mul, pu_in, pu_ck, pu_let, pu_cl, pu_cpok, pu_inr, Option.bind_some, ite_true, ite_false, pu_dm, pu_dv, pu_sub, nt_dm, if_true, if_false]))
  · obtain ⟨p, hp⟩ : ∃ p, X.2.2.2.1 = p + 1 := ⟨X.2.2.2.1 - 1, by omega⟩
    rw [if_neg z, hp, plI_s]
    ((try simp only [b_X6_markOfLasting_22, li_0, li_1, li_2, li_3, li_4, li_5, li_6, li_7, li_8, li_9, li_10, li_11, li_12, li_13, li_14, li_15, li_16, li_17, li_18, li_19, li_20, li_30, li_31, li_32, li_33, li_40, li_41, li_42, li_43, li_45, li_48, li_56, li_57, li_59, li_60, li_61, li_64, li_91, li_97, li_99, li_100, li_122, li_150, li_160, li_200, li_201, li_255, li_300, li_303, li_304, li_305, li_306, li_312, li_400, li_500, li_999, li_1003, li_3099, li_99999, li_100000, li_1000000, li_65, li_23, li_neg]); (try simp (disch := omega) only [b_X6_markOfLasting_22, ic_le_f, ic_le_t, ic_lt_f, ic_lt_t, ic_eq_f, ic_eq_t, ic_im, ic_mi, ic_mm_t, ic_mm_f, ic_mlt, ic_mle, ic_ilem, ic_iltm, ic_mmle_t, ic_mmle_f, pu_add, pu_mul, pu_in, pu_ck, pu_let, pu_cl, pu_cpok, pu_inr, Option.bind_some, ite_true, ite_false, pu_dm, pu_dv, pu_sub, nt_dm, if_true, if_false]))
    rw [g1]
    ((try simp only [li_0, li_1, li_2, li_3, li_4, li_5, li_6, li_7, li_8, li_9, li_10, li_11, li_12, li_13, li_14, li_15, li_16, li_17, li_18, li_19, li_20, li_30, li_31, li_32, li_33, li_40, li_41, li_42, li_43, li_45, li_48, li_56, li_57, li_59, li_60, li_61, li_64, li_91, li_97, li_99, li_100, li_122, li_150, li_160, li_200, li_201, li_255, li_300, li_303, li_304, li_305, li_306, li_312, li_400, li_500, li_999, li_1003, li_3099, li_99999, li_100000, li_1000000, li_65, li_23, li_neg]); (try simp (disch := omega) only [ic_le_f, ic_le_t, ic_lt_f, ic_lt_t, ic_eq_f, ic_eq_t, ic_im, ic_mi, ic_mm_t, ic_mm_f, ic_mlt, ic_mle, ic_ilem, ic_iltm, ic_mmle_t, ic_mmle_f, pu_add, pu_mul, pu_in, pu_ck, pu_let, pu_cl, pu_cpok, pu_inr, Option.bind_some, ite_true, ite_false, pu_dm, pu_dv, pu_sub, nt_dm, if_true, if_false]))
    rfl
theorem r7r121 {m : qaM} {v1 v2 v3 v4 v5 v6 v7 v9 s0 : Int32} {k : Nat} (hk : k < 12) (C : Prop) (hC : C ↔ (v5 = nM 1 ∨ v6 < v9 ∨ (v9 = v6 ∧ ¬ s0 ≤ v7))) [hd : Decidable C] :
    b_X7_rules_121 m v1 v2 v3 v4 v5 v6 v7 (nI k) v9 s0 = some (.inl (m, if C then nI (10 * (k / 3) + k % 3) else v5, if C then v9 else v6, if C then s0 else v7, nI (k + 1))) := by
  have ht : b_X7_rules_150 m v1 v2 v3 v4 v5 v6 v7 (nI k) v9 s0 = some (.inl (m, nI (10 * (k / 3) + k % 3), v9, s0, nI (k + 1))) := by
    ((try simp only [b_X7_rules_150, b_X7_rules_155, b_X7_rules_179, b_X7_rules_193, b_X7_rules_207, li_0, li_1, li_2, li_3, li_4, li_5, li_6, li_7, li_8, li_9, li_10, li_11, li_12, li_13, li_14, li_15, li_16, li_17, li_18, li_19, li_20, li_30, li_31, li_32, li_33, li_40, li_41, li_42, li_43, li_45, li_48, li_56, li_57, li_59, li_60, li_61, li_64, li_91, li_97, li_99, li_100, li_122, li_150, li_160, li_200, li_201, li_255, li_300, li_303, li_304, li_305, li_306, li_312, li_400, li_500, li_999, li_1003, li_3099, li_99999, li_100000, li_1000000, li_65, li_23, li_neg]); (try simp (disch := omega) only [b_X7_rules_150, b_X7_rules_155, b_X7_rules_179, b_X7_rules_193, b_X7_rules_207, ic_le_f, ic_le_t, ic_lt_f, ic_lt_t, ic_eq_f, ic_eq_t, ic_im, ic_mi, ic_mm_t, ic_mm_f, ic_mlt, ic_mle, ic_ilem, ic_iltm, ic_mmle_t, ic_mmle_f, pu_add, pu_mul, pu_in, pu_ck, pu_let, pu_cl, pu_cpok, pu_inr, Option.bind_some, ite_true, ite_false, pu_dm, pu_dv, pu_sub, nt_dm, if_true, if_false]))
  have hf : b_X7_rules_154 m v1 v2 v3 v4 v5 v6 v7 (nI k) v9 s0 = some (.inl (m, v5, v6, v7, nI (k + 1))) := by
    ((try simp only [b_X7_rules_154, b_X7_rules_155, b_X7_rules_179, b_X7_rules_193, b_X7_rules_207, li_0, li_1, li_2, li_3, li_4, li_5, li_6, li_7, li_8, li_9, li_10, li_11, li_12, li_13, li_14, li_15, li_16, li_17, li_18, li_19, li_20, li_30, li_31, li_32, li_33, li_40, li_41, li_42, li_43, li_45, li_48, li_56, li_57, li_59, li_60, li_61, li_64, li_91, li_97, li_99, li_100, li_122, li_150, li_160, li_200, li_201, li_255, li_300, li_303, li_304, li_305, li_306, li_312, li_400, li_500, li_999, li_1003, li_3099, li_99999, li_100000, li_1000000, li_65, li_23, li_neg]); (try simp (disch := omega) only [b_X7_rules_154, b_X7_rules_155, b_X7_rules_179, b_X7_rules_193, b_X7_rules_207, ic_le_f, ic_le_t, ic_lt_f, ic_lt_t, ic_eq_f, ic_eq_t, ic_im, ic_mi, ic_mm_t, ic_mm_f, ic_mlt, ic_mle, ic_ilem, ic_iltm, ic_mmle_t, ic_mmle_f, pu_add, pu_mul, pu_in, pu_ck, pu_let, pu_cl, pu_cpok, pu_inr, Option.bind_some, ite_true, ite_false, pu_dm, pu_dv, pu_sub, nt_dm, if_true, if_false]))
  unfold b_X7_rules_121
  simp only [li_0, li_1, li_2, li_3, li_4, li_5, li_6, li_7, li_8, li_9, li_10, li_11, li_12, li_13, li_14, li_15, li_16, li_17, li_18, li_19, li_20, li_30, li_31, li_32, li_33, li_40, li_41, li_42, li_43, li_45, li_48, li_56, li_57, li_59, li_60, li_61, li_64, li_91, li_97, li_99, li_100, li_122, li_150, li_160, li_200, li_201, li_255, li_300, li_303, li_304, li_305, li_306, li_312, li_400, li_500, li_999, li_1003, li_3099, li_99999, li_100000, li_1000000, li_65, li_23, li_neg]
  rw [ht, hf]
  by_cases q1 : v5 = nM 1
  · have : C := hC.mpr (Or.inl q1)
    simp only [if_pos this, if_pos q1]
  · rw [if_neg q1]
    by_cases q2 : v6 < v9
    · have : C := hC.mpr (Or.inr (Or.inl q2))
      simp only [if_pos this, if_pos q2]
    · rw [if_neg q2]
      by_cases q3 : v9 = v6
      · rw [if_pos q3]
        by_cases q4 : s0 ≤ v7
        · have : ¬ C := fun z => by
            rcases hC.mp z with z | z | z
            · exact q1 z
            · exact q2 z
            · exact z.2 q4
          simp only [if_neg this, if_pos q4]
        · have : C := hC.mpr (Or.inr (Or.inr ⟨q3, q4⟩))
          simp only [if_pos this, if_neg q4]
      · have : ¬ C := fun z => by
          rcases hC.mp z with z | z | z
          · exact q1 z
          · exact q2 z
          · exact q3 z.1
        simp only [if_neg this, if_neg q3]
/-- the answer as the reference holds it -/
def baF (mk : Nat → Int32) (j : Nat) : Int32 := if bsF mk j = 0 then nM 1 else nI (10 * ((bsF mk j - 1) / 3) + (bsF mk j - 1) % 3)
def beF (mk vv : Nat → Int32) (j : Nat) : Int32 := if bsF mk j = 0 then nI 0 else vv (bsF mk j - 1)
theorem r7rs {mk vv la : Nat → Int32} {j : Nat} {x : qaM} {v1 v2 v3 v4 : Int32} (hj : j < 12) (hm : ∀ a b : Nat, a < 12 → b < 12 → ((¬ mk a ≤ mk b) ↔ (vv b < vv a ∨ (vv a = vv b ∧ ¬ la a ≤ la b)))) :
    b_X7_rules_121 x v1 v2 v3 v4 (baF mk j) (beF mk vv j) (beF mk la j) (nI j) (vv j) (la j) = some (.inl (x, baF mk (j + 1), beF mk vv (j + 1), beF mk la (j + 1), nI (j + 1))) := by
  have hle := bsF_le mk j
  have hC : (bsF mk j = 0 ∨ ¬ mk j ≤ mk (bsF mk j - 1)) ↔ (baF mk j = nM 1 ∨ beF mk vv j < vv j ∨ (vv j = beF mk vv j ∧ ¬ la j ≤ beF mk la j)) := by
    by_cases z : bsF mk j = 0
    · exact ⟨fun _ => Or.inl (if_pos z), fun _ => Or.inl z⟩
    · have e1 : baF mk j = nI (10 * ((bsF mk j - 1) / 3) + (bsF mk j - 1) % 3) := if_neg z
      have e2 : beF mk vv j = vv (bsF mk j - 1) := if_neg z
      have e3 : beF mk la j = la (bsF mk j - 1) := if_neg z
      rw [e1, e2, e3, hm j (bsF mk j - 1) hj (by omega)]
      constructor
      · rintro (w | w)
        · exact absurd w z
        · exact Or.inr w
      · rintro (w | w)
        · exact absurd w.symm (nM_eqI (by omega) (by omega) (Or.inl (by omega)))
        · exact Or.inr w
  rw [r7r121 hj _ hC]
  by_cases q : bsF mk j = 0 ∨ ¬ mk j ≤ mk (bsF mk j - 1)
  · have hb : bsF mk (j + 1) = j + 1 := by rw [bsF, if_pos q]
    simp only [if_pos q, baF, beF, hb]
    rfl
  · have hb : bsF mk (j + 1) = bsF mk j := by rw [bsF, if_neg q]
    simp only [if_neg q]
    unfold baF beF
    rw [hb]
theorem qp_rules : qaP_rules Rel := by
  intro m a b h
  obtain ⟨H, N, S, hD⟩ := h
  have ⟨c, r, v, hl, hw, t, _, _, _, nt⟩ := hD
  rcases upTo 200 201 rfl (by omega) a with ⟨n, hn, rfl⟩ | hx
  rotate_left
  · rcases hx with ⟨h1, h2, h3, h4, h5, h6⟩ | ⟨h1, h2, h3, h4, h5, h6⟩
    all_goals
      refine ⟨nM 2, m, m, ?_, ?_, Rel.mk hD⟩
      · ((try simp only [f_X6_rules, f_X6_isWeeks, f_X6_isSheet, f_X6_isSeed, f_X6_isByte, h1, h2, h3, h4, h5, h6, li_0, li_1, li_2, li_3, li_4, li_5, li_6, li_7, li_8, li_9, li_10, li_11, li_12, li_13, li_14, li_15, li_16, li_17, li_18, li_19, li_20, li_30, li_31, li_32, li_33, li_40, li_41, li_42, li_43, li_45, li_48, li_56, li_57, li_59, li_60, li_61, li_64, li_91, li_97, li_99, li_100, li_122, li_150, li_160, li_200, li_201, li_255, li_300, li_303, li_304, li_305, li_306, li_312, li_400, li_500, li_999, li_1003, li_3099, li_99999, li_100000, li_1000000, li_65, li_23, li_neg]); (try simp (disch := omega) only [f_X6_rules, f_X6_isWeeks, f_X6_isSheet, f_X6_isSeed, f_X6_isByte, h1, h2, h3, h4, h5, h6, ic_le_f, ic_le_t, ic_lt_f, ic_lt_t, ic_eq_f, ic_eq_t, ic_im, ic_mi, ic_mm_t, ic_mm_f, ic_mlt, ic_mle, ic_ilem, ic_iltm, ic_mmle_t, ic_mmle_f, pu_add, pu_mul, pu_in, pu_ck, pu_let, pu_cl, pu_cpok, pu_inr, Option.bind_some, ite_true, ite_false, pu_dm, pu_dv, pu_sub, nt_dm, if_true, if_false]))
      · ((try simp only [f_X7_rules, f_X7_in, f_X7_areWeeks, f_X7_isByte, qa_bl0, qa_bl1, h1, h2, h3, h4, h5, h6, li_0, li_1, li_2, li_3, li_4, li_5, li_6, li_7, li_8, li_9, li_10, li_11, li_12, li_13, li_14, li_15, li_16, li_17, li_18, li_19, li_20, li_30, li_31, li_32, li_33, li_40, li_41, li_42, li_43, li_45, li_48, li_56, li_57, li_59, li_60, li_61, li_64, li_91, li_97, li_99, li_100, li_122, li_150, li_160, li_200, li_201, li_255, li_300, li_303, li_304, li_305, li_306, li_312, li_400, li_500, li_999, li_1003, li_3099, li_99999, li_100000, li_1000000, li_65, li_23, li_neg]); (try simp (disch := omega) only [f_X7_rules, f_X7_in, f_X7_areWeeks, f_X7_isByte, qa_bl0, qa_bl1, h1, h2, h3, h4, h5, h6, ic_le_f, ic_le_t, ic_lt_f, ic_lt_t, ic_eq_f, ic_eq_t, ic_im, ic_mi, ic_mm_t, ic_mm_f, ic_mlt, ic_mle, ic_ilem, ic_iltm, ic_mmle_t, ic_mmle_f, pu_add, pu_mul, pu_in, pu_ck, pu_let, pu_cl, pu_cpok, pu_inr, Option.bind_some, ite_true, ite_false, pu_dm, pu_dv, pu_sub, nt_dm, if_true, if_false]))
  rcases upTo 1 2 rfl (by omega) b with ⟨g, hg, rfl⟩ | hx
  rotate_left
  · rcases hx with ⟨h1, h2, h3, h4, h5, h6⟩ | ⟨h1, h2, h3, h4, h5, h6⟩
    all_goals
      refine ⟨nM 2, m, m, ?_, ?_, Rel.mk hD⟩
      · ((try simp only [f_X6_rules, f_X6_isWeeks, f_X6_isSheet, f_X6_isSeed, f_X6_isByte, h1, h2, h3, h4, h5, h6, li_0, li_1, li_2, li_3, li_4, li_5, li_6, li_7, li_8, li_9, li_10, li_11, li_12, li_13, li_14, li_15, li_16, li_17, li_18, li_19, li_20, li_30, li_31, li_32, li_33, li_40, li_41, li_42, li_43, li_45, li_48, li_56, li_57, li_59, li_60, li_61, li_64, li_91, li_97, li_99, li_100, li_122, li_150, li_160, li_200, li_201, li_255, li_300, li_303, li_304, li_305, li_306, li_312, li_400, li_500, li_999, li_1003, li_3099, li_99999, li_100000, li_1000000, li_65, li_23, li_neg]); (try simp (disch := omega) only [f_X6_rules, f_X6_isWeeks, f_X6_isSheet, f_X6_isSeed, f_X6_isByte, h1, h2, h3, h4, h5, h6, ic_le_f, ic_le_t, ic_lt_f, ic_lt_t, ic_eq_f, ic_eq_t, ic_im, ic_mi, ic_mm_t, ic_mm_f, ic_mlt, ic_mle, ic_ilem, ic_iltm, ic_mmle_t, ic_mmle_f, pu_add, pu_mul, pu_in, pu_ck, pu_let, pu_cl, pu_cpok, pu_inr, Option.bind_some, ite_true, ite_false, pu_dm, pu_dv, pu_sub, nt_dm, if_true, if_false]))
      · ((try simp only [f_X7_rules, f_X7_in, f_X7_areWeeks, f_X7_isByte, qa_bl0, qa_bl1, h1, h2, h3, h4, h5, h6, li_0, li_1, li_2, li_3, li_4, li_5, li_6, li_7, li_8, li_9, li_10, li_11, li_12, li_13, li_14, li_15, li_16, li_17, li_18, li_19, li_20, li_30, li_31, li_32, li_33, li_40, li_41, li_42, li_43, li_45, li_48, li_56, li_57, li_59, li_60, li_61, li_64, li_91, li_97, li_99, li_100, li_122, li_150, li_160, li_200, li_201, li_255, li_300, li_303, li_304, li_305, li_306, li_312, li_400, li_500, li_999, li_1003, li_3099, li_99999, li_100000, li_1000000, li_65, li_23, li_neg]); (try simp (disch := omega) only [f_X7_rules, f_X7_in, f_X7_areWeeks, f_X7_isByte, qa_bl0, qa_bl1, h1, h2, h3, h4, h5, h6, ic_le_f, ic_le_t, ic_lt_f, ic_lt_t, ic_eq_f, ic_eq_t, ic_im, ic_mi, ic_mm_t, ic_mm_f, ic_mlt, ic_mle, ic_ilem, ic_iltm, ic_mmle_t, ic_mmle_f, pu_add, pu_mul, pu_in, pu_ck, pu_let, pu_cl, pu_cpok, pu_inr, Option.bind_some, ite_true, ite_false, pu_dm, pu_dv, pu_sub, nt_dm, if_true, if_false]))
  obtain ⟨T, hT⟩ : ∃ T : Nat → TY, ∀ k, T k = thk S n (rulV H k) := ⟨_, fun _ => rfl⟩
  have hTV : ∀ k, k < 12 → TV (T k) ∧ (T k).1.n = H.n ∧ (T k).2.2.2.1 ≤ n := fun k hk => by
    have h1 := seqT_V (S := S) (w := wR (rulV H k)) (ty0_V (rulV_V v hk)) n
    have h2 := h1.1.2
    have h3 := h1.2.2
    rw [hT]
    refine ⟨h1.1, h1.2.1.1, ?_⟩
    show (seqT S (wR (rulV H k)) n (ty0 (rulV H k))).2.2.2.1 ≤ n
    rw [h3] at h2
    exact Nat.le_trans h2 (by show 0 + n ≤ n; omega)
  obtain ⟨vv, hvv⟩ : ∃ vv : Nat → Int32, ∀ k, vv k = if g = 0 then nI (lfH (T k).1.A H.n) else nM (T k).2.1 := ⟨_, fun _ => rfl⟩
  obtain ⟨la, hla⟩ : ∃ la : Nat → Int32, ∀ k, la k = if g = 0 then nI (fnN n (T k).2.2.2.1) else nI 0 := ⟨_, fun _ => rfl⟩
  obtain ⟨mk, hmk⟩ : ∃ mk : Nat → Int32, ∀ k, mk k = if g = 0 then nI (lfH (T k).1.A H.n * 201 + fnN n (T k).2.2.2.1) else nM (T k).2.1 := ⟨_, fun _ => rfl⟩
  have hfn : ∀ k, k < 12 → fnN n (T k).2.2.2.1 ≤ n := fun k hk => by
    have := (hTV k hk).2.2
    unfold fnN
    split <;> omega
  have hm : ∀ a b : Nat, a < 12 → b < 12 → ((¬ mk a ≤ mk b) ↔ (vv b < vv a ∨ (vv a = vv b ∧ ¬ la a ≤ la b))) := by
    intro a b ha hb
    rw [hmk, hmk, hvv, hvv, hla, hla]
    have n8 := v.n8
    have l1 := lfH_le (T a).1.A H.n
    have l2 := lfH_le (T b).1.A H.n
    have f1 := hfn a ha
    have f2 := hfn b hb
    by_cases z : g = 0
    · simp only [if_pos z]
      rw [pu_le (by omega) (by omega), pu_lt (by omega) (by omega), pu_eq (by omega) (by omega), pu_le (by omega) (by omega)]
      omega
    · simp only [if_neg z]
      rw [Int32.not_le]
      constructor
      · exact fun q => Or.inl q
      · rintro (q | q)
        · exact q
        · exact absurd (Int32.le_refl _) q.2
  obtain ⟨r1, a1, a2, a3⟩ := lp_at (f := fun s : qaM × Int32 × Int32 × Int32 => b_X6_rules_27 s.1 (nI n) (nI g) s.2.1 s.2.2.1 s.2.2.2) (fun j s => s.2 = (plI (bsF mk j), bmF mk j, nI j) ∧ qF kL m s.1) (fun q => q.1 = nI (10 * ((bsF mk 12 - 1) / 3) + (bsF mk 12 - 1) % 3) ∧ qF kL m q.2) 12 (s := (m, nM 1, nI 0, nI 0)) ⟨rfl, qF.rf _ _⟩ (by omega) (by
    rintro j ⟨x, k⟩ hj ⟨hk, hf⟩
    have hk2 : k = (plI (bsF mk j), bmF mk j, nI j) := hk
    replace hf : qF kL m x := hf
    subst hk2
    show (∃ s', b_X6_rules_27 x (nI n) (nI g) (plI (bsF mk j)) (bmF mk j) (nI j) = some (.inl s') ∧ _) ∨ (∃ q, b_X6_rules_27 x (nI n) (nI g) (plI (bsF mk j)) (bmF mk j) (nI j) = some (.inr q) ∧ _)
    unfold b_X6_rules_27
    rcases Nat.lt_or_ge j 12 with q | q
    · obtain ⟨x2, g1, g2, g3⟩ := kbyRules (k := j) (n := n) (c.kL hf) v (t.2.2.2.2.1.kL hf) t.2.2.2.2.2.2 hl (by omega) q hf
      rw [← hT] at g2
      have hv2 := hTV j q
      refine Or.inl ⟨(x2, plI (bsF mk (j + 1)), bmF mk (j + 1), nI (j + 1)), ?_, q, rfl, g3⟩
      · rw [← kr61 (v1 := nI n) (v2 := nI g) q]
        ((try simp only [li_0, li_1, li_2, li_3, li_4, li_5, li_6, li_7, li_8, li_9, li_10, li_11, li_12, li_13, li_14, li_15, li_16, li_17, li_18, li_19, li_20, li_30, li_31, li_32, li_33, li_40, li_41, li_42, li_43, li_45, li_48, li_56, li_57, li_59, li_60, li_61, li_64, li_91, li_97, li_99, li_100, li_122, li_150, li_160, li_200, li_201, li_255, li_300, li_303, li_304, li_305, li_306, li_312, li_400, li_500, li_999, li_1003, li_3099, li_99999, li_100000, li_1000000, li_65, li_23, li_neg]); (try simp (disch := omega) only [ic_le_f, ic_le_t, ic_lt_f, ic_lt_t, ic_eq_f, ic_eq_t, ic_im, ic_mi, ic_mm_t, ic_mm_f, ic_mlt, ic_mle, ic_ilem, ic_iltm, ic_mmle_t, ic_mmle_f, pu_add, pu_mul, pu_in, pu_ck, pu_let, pu_cl, pu_cpok, pu_inr, Option.bind_some, ite_true, ite_false, pu_dm, pu_dv, pu_sub, nt_dm, if_true, if_false]))
        rw [g1]
        ((try simp only [li_0, li_1, li_2, li_3, li_4, li_5, li_6, li_7, li_8, li_9, li_10, li_11, li_12, li_13, li_14, li_15, li_16, li_17, li_18, li_19, li_20, li_30, li_31, li_32, li_33, li_40, li_41, li_42, li_43, li_45, li_48, li_56, li_57, li_59, li_60, li_61, li_64, li_91, li_97, li_99, li_100, li_122, li_150, li_160, li_200, li_201, li_255, li_300, li_303, li_304, li_305, li_306, li_312, li_400, li_500, li_999, li_1003, li_3099, li_99999, li_100000, li_1000000, li_65, li_23, li_neg]); (try simp (disch := omega) only [ic_le_f, ic_le_t, ic_lt_f, ic_lt_t, ic_eq_f, ic_eq_t, ic_im, ic_mi, ic_mm_t, ic_mm_f, ic_mlt, ic_mle, ic_ilem, ic_iltm, ic_mmle_t, ic_mmle_f, pu_add, pu_mul, pu_in, pu_ck, pu_let, pu_cl, pu_cpok, pu_inr, Option.bind_some, ite_true, ite_false, pu_dm, pu_dv, pu_sub, nt_dm, if_true, if_false]))
        by_cases z : g = 0
        · rw [z]
          ((try simp only [li_0, li_1, li_2, li_3, li_4, li_5, li_6, li_7, li_8, li_9, li_10, li_11, li_12, li_13, li_14, li_15, li_16, li_17, li_18, li_19, li_20, li_30, li_31, li_32, li_33, li_40, li_41, li_42, li_43, li_45, li_48, li_56, li_57, li_59, li_60, li_61, li_64, li_91, li_97, li_99, li_100, li_122, li_150, li_160, li_200, li_201, li_255, li_300, li_303, li_304, li_305, li_306, li_312, li_400, li_500, li_999, li_1003, li_3099, li_99999, li_100000, li_1000000, li_65, li_23, li_neg]); (try simp (disch := omega) only [ic_le_f, ic_le_t, ic_lt_f, ic_lt_t, ic_eq_f, ic_eq_t, ic_im, ic_mi, ic_mm_t, ic_mm_f, ic_mlt, ic_mle, ic_ilem, ic_iltm, ic_mmle_t, ic_mmle_f, pu_add, pu_mul, pu_in, pu_ck, pu_let, pu_cl, pu_cpok, pu_inr, Option.bind_some, ite_true, ite_false, pu_dm, pu_dv, pu_sub, nt_dm, if_true, if_false]))
          rw [kmark g2 hv2.1 (by omega), hmk, if_pos z, hv2.2.1, Option.bind_some]
        · ((try simp only [li_0, li_1, li_2, li_3, li_4, li_5, li_6, li_7, li_8, li_9, li_10, li_11, li_12, li_13, li_14, li_15, li_16, li_17, li_18, li_19, li_20, li_30, li_31, li_32, li_33, li_40, li_41, li_42, li_43, li_45, li_48, li_56, li_57, li_59, li_60, li_61, li_64, li_91, li_97, li_99, li_100, li_122, li_150, li_160, li_200, li_201, li_255, li_300, li_303, li_304, li_305, li_306, li_312, li_400, li_500, li_999, li_1003, li_3099, li_99999, li_100000, li_1000000, li_65, li_23, li_neg]); (try simp (disch := omega) only [ic_le_f, ic_le_t, ic_lt_f, ic_lt_t, ic_eq_f, ic_eq_t, ic_im, ic_mi, ic_mm_t, ic_mm_f, ic_mlt, ic_mle, ic_ilem, ic_iltm, ic_mmle_t, ic_mmle_f, pu_add, pu_mul, pu_in, pu_ck, pu_let, pu_cl, pu_cpok, pu_inr, Option.bind_some, ite_true, ite_false, pu_dm, pu_dv, pu_sub, nt_dm, if_true, if_false]))
          rw [hmk, if_neg z, g2.2.1]
          ((try simp only [li_0, li_1, li_2, li_3, li_4, li_5, li_6, li_7, li_8, li_9, li_10, li_11, li_12, li_13, li_14, li_15, li_16, li_17, li_18, li_19, li_20, li_30, li_31, li_32, li_33, li_40, li_41, li_42, li_43, li_45, li_48, li_56, li_57, li_59, li_60, li_61, li_64, li_91, li_97, li_99, li_100, li_122, li_150, li_160, li_200, li_201, li_255, li_300, li_303, li_304, li_305, li_306, li_312, li_400, li_500, li_999, li_1003, li_3099, li_99999, li_100000, li_1000000, li_65, li_23, li_neg]); (try simp (disch := omega) only [ic_le_f, ic_le_t, ic_lt_f, ic_lt_t, ic_eq_f, ic_eq_t, ic_im, ic_mi, ic_mm_t, ic_mm_f, ic_mlt, ic_mle, ic_ilem, ic_iltm, ic_mmle_t, ic_mmle_f, pu_add, pu_mul, pu_in, pu_ck, pu_let, pu_cl, pu_cpok, pu_inr, Option.bind_some, ite_true, ite_false, pu_dm, pu_dv, pu_sub, nt_dm, if_true, if_false]))
    · have : j = 12 := by omega
      subst this
      have hp : 0 < bsF mk 12 := bsF_pos mk 11
      have hle := bsF_le mk 12
      obtain ⟨p, hp⟩ : ∃ p, bsF mk 12 = p + 1 := ⟨bsF mk 12 - 1, by omega⟩
      refine Or.inr ⟨(nI (10 * ((bsF mk 12 - 1) / 3) + (bsF mk 12 - 1) % 3), x), ?_, rfl, hf⟩
      rw [hp, plI_s]
      ((try simp only [b_X6_rules_88, li_0, li_1, li_2, li_3, li_4, li_5, li_6, li_7, li_8, li_9, li_10, li_11, li_12, li_13, li_14, li_15, li_16, li_17, li_18, li_19, li_20, li_30, li_31, li_32, li_33, li_40, li_41, li_42, li_43, li_45, li_48, li_56, li_57, li_59, li_60, li_61, li_64, li_91, li_97, li_99, li_100, li_122, li_150, li_160, li_200, li_201, li_255, li_300, li_303, li_304, li_305, li_306, li_312, li_400, li_500, li_999, li_1003, li_3099, li_99999, li_100000, li_1000000, li_65, li_23, li_neg]); (try simp (disch := omega) only [b_X6_rules_88, ic_le_f, ic_le_t, ic_lt_f, ic_lt_t, ic_eq_f, ic_eq_t, ic_im, ic_mi, ic_mm_t, ic_mm_f, ic_mlt, ic_mle, ic_ilem, ic_iltm, ic_mmle_t, ic_mmle_f, pu_add, pu_mul, pu_in, pu_ck, pu_let, pu_cl, pu_cpok, pu_inr, Option.bind_some, ite_true, ite_false, pu_dm, pu_dv, pu_sub, nt_dm, if_true, if_false]))
      rw [show p / 3 * 10 + p % 3 = 10 * ((p + 1 - 1) / 3) + (p + 1 - 1) % 3 by omega])
  have r1m : MH r1.2 H := r.cl a3 (by decide)
  have tr := t.2.2.2.2.2.1.F a3 (by decide) (by decide)
  obtain ⟨r2, b1, b2, b3, b4, b5⟩ := lp_at (f := fun s : qaM × Int32 × Int32 × Int32 × Int32 => b_X7_rules_46 s.1 (nI n) (nI g) (nI (H.R 2)) (nI (H.R 3)) s.2.1 s.2.2.1 s.2.2.2.1 s.2.2.2.2) (fun j s => s.2 = (baF mk j, beF mk vv j, beF mk la j, nI j) ∧ (∃ a b, MH s.1 ((H.setR 2 a).setR 3 b)) ∧ qF rL r1.2 s.1 ∧ o36l oL r1.2 s.1) (fun q => q.1 = nI (10 * ((bsF mk 12 - 1) / 3) + (bsF mk 12 - 1) % 3) ∧ MH q.2 H ∧ qF rL r1.2 q.2 ∧ o36l oL r1.2 q.2) 12 (s := (r1.2, nM 1, nI 0, nI 0, nI 0)) ⟨rfl, ⟨_, _, r1m.rul0⟩, qF.rf _ _, o36l.rf _ _⟩ (by omega) (by
    rintro j ⟨x, k⟩ hj ⟨hk, ⟨u1, u2, hm1⟩, hf, ho⟩
    have hk2 : k = (baF mk j, beF mk vv j, beF mk la j, nI j) := hk
    replace hf : qF rL r1.2 x := hf
    replace ho : o36l oL r1.2 x := ho
    replace hm1 : MH x ((H.setR 2 u1).setR 3 u2) := hm1
    subst hk2
    show (∃ s', b_X7_rules_46 x (nI n) (nI g) (nI (H.R 2)) (nI (H.R 3)) (baF mk j) (beF mk vv j) (beF mk la j) (nI j) = some (.inl s') ∧ _) ∨ (∃ q, b_X7_rules_46 x (nI n) (nI g) (nI (H.R 2)) (nI (H.R 3)) (baF mk j) (beF mk vv j) (beF mk la j) (nI j) = some (.inr q) ∧ _)
    unfold b_X7_rules_46
    rcases Nat.lt_or_ge j 12 with q | q
    · have f1 : qF [41] x (qa_st (qa_st x 41 2 (nI (j / 3))) 41 3 (nI (j % 3))) := ((qF.rf _ x).stl (by simp)).stl (by simp)
      obtain ⟨x2, go, g1, g2, g3, g4, g5, g6⟩ := r7thk (n := n) (hm1.rul (k := j)) (rulV_V v q) ((tr.rL hf).F f1 (by simp) (by simp)) t.2.2.2.2.2.2 hl (by omega) (hf.t2 f1 (by simp [rL])) (ho.tr (o36l.q (k := []) f1 (by simp)) (fun _ z => z) (by simp))
      rw [← hT] at g3 g4
      have hv2 := hTV j q
      have n8 := v.n8
      refine Or.inl ⟨(x2, baF mk (j + 1), beF mk vv (j + 1), beF mk la (j + 1), nI (j + 1)), ?_, q, rfl, ⟨_, _, g2⟩, g5, g6⟩
      · rw [← r7rs (v1 := nI n) (v2 := nI g) (v3 := nI (H.R 2)) (v4 := nI (H.R 3)) q hm]
        ((try simp only [li_0, li_1, li_2, li_3, li_4, li_5, li_6, li_7, li_8, li_9, li_10, li_11, li_12, li_13, li_14, li_15, li_16, li_17, li_18, li_19, li_20, li_30, li_31, li_32, li_33, li_40, li_41, li_42, li_43, li_45, li_48, li_56, li_57, li_59, li_60, li_61, li_64, li_91, li_97, li_99, li_100, li_122, li_150, li_160, li_200, li_201, li_255, li_300, li_303, li_304, li_305, li_306, li_312, li_400, li_500, li_999, li_1003, li_3099, li_99999, li_100000, li_1000000, li_65, li_23, li_neg]); (try simp (disch := omega) only [ic_le_f, ic_le_t, ic_lt_f, ic_lt_t, ic_eq_f, ic_eq_t, ic_im, ic_mi, ic_mm_t, ic_mm_f, ic_mlt, ic_mle, ic_ilem, ic_iltm, ic_mmle_t, ic_mmle_f, pu_add, pu_mul, pu_in, pu_ck, pu_let, pu_cl, pu_cpok, pu_inr, Option.bind_some, ite_true, ite_false, pu_dm, pu_dv, pu_sub, nt_dm, if_true, if_false]))
        rw [g1]
        ((try simp only [li_0, li_1, li_2, li_3, li_4, li_5, li_6, li_7, li_8, li_9, li_10, li_11, li_12, li_13, li_14, li_15, li_16, li_17, li_18, li_19, li_20, li_30, li_31, li_32, li_33, li_40, li_41, li_42, li_43, li_45, li_48, li_56, li_57, li_59, li_60, li_61, li_64, li_91, li_97, li_99, li_100, li_122, li_150, li_160, li_200, li_201, li_255, li_300, li_303, li_304, li_305, li_306, li_312, li_400, li_500, li_999, li_1003, li_3099, li_99999, li_100000, li_1000000, li_65, li_23, li_neg]); (try simp (disch := omega) only [ic_le_f, ic_le_t, ic_lt_f, ic_lt_t, ic_eq_f, ic_eq_t, ic_im, ic_mi, ic_mm_t, ic_mm_f, ic_mlt, ic_mle, ic_ilem, ic_iltm, ic_mmle_t, ic_mmle_f, pu_add, pu_mul, pu_in, pu_ck, pu_let, pu_cl, pu_cpok, pu_inr, Option.bind_some, ite_true, ite_false, pu_dm, pu_dv, pu_sub, nt_dm, if_true, if_false]))
        by_cases z : g = 0
        · rw [z]
          ((try simp only [li_0, li_1, li_2, li_3, li_4, li_5, li_6, li_7, li_8, li_9, li_10, li_11, li_12, li_13, li_14, li_15, li_16, li_17, li_18, li_19, li_20, li_30, li_31, li_32, li_33, li_40, li_41, li_42, li_43, li_45, li_48, li_56, li_57, li_59, li_60, li_61, li_64, li_91, li_97, li_99, li_100, li_122, li_150, li_160, li_200, li_201, li_255, li_300, li_303, li_304, li_305, li_306, li_312, li_400, li_500, li_999, li_1003, li_3099, li_99999, li_100000, li_1000000, li_65, li_23, li_neg]); (try simp (disch := omega) only [ic_le_f, ic_le_t, ic_lt_f, ic_lt_t, ic_eq_f, ic_eq_t, ic_im, ic_mi, ic_mm_t, ic_mm_f, ic_mlt, ic_mle, ic_ilem, ic_iltm, ic_mmle_t, ic_mmle_f, pu_add, pu_mul, pu_in, pu_ck, pu_let, pu_cl, pu_cpok, pu_inr, Option.bind_some, ite_true, ite_false, pu_dm, pu_dv, pu_sub, nt_dm, if_true, if_false]))
          have hlm : f_X7_leftMany x2 = some (nI (lfH (T j).1.A H.n)) := r7leftMany g2.2.2.2.1 n8 g4 hv2.1.1.av
          rw [hlm, Option.bind_some]
          unfold b_X7_rules_94
          rw [g3.2.2.1, hvv, hla, if_pos z, if_pos z]
          unfold fnN
          have hfi := hv2.2.2
          by_cases y : (T j).2.2.2.1 = 0
          · rw [y, plI_0, if_pos rfl]
            ((try simp only [li_0, li_1, li_2, li_3, li_4, li_5, li_6, li_7, li_8, li_9, li_10, li_11, li_12, li_13, li_14, li_15, li_16, li_17, li_18, li_19, li_20, li_30, li_31, li_32, li_33, li_40, li_41, li_42, li_43, li_45, li_48, li_56, li_57, li_59, li_60, li_61, li_64, li_91, li_97, li_99, li_100, li_122, li_150, li_160, li_200, li_201, li_255, li_300, li_303, li_304, li_305, li_306, li_312, li_400, li_500, li_999, li_1003, li_3099, li_99999, li_100000, li_1000000, li_65, li_23, li_neg]); (try simp (disch := omega) only [ic_le_f, ic_le_t, ic_lt_f, ic_lt_t, ic_eq_f, ic_eq_t, ic_im, ic_mi, ic_mm_t, ic_mm_f, ic_mlt, ic_mle, ic_ilem, ic_iltm, ic_mmle_t, ic_mmle_f, pu_add, pu_mul, pu_in, pu_ck, pu_let, pu_cl, pu_cpok, pu_inr, Option.bind_some, ite_true, ite_false, pu_dm, pu_dv, pu_sub, nt_dm, if_true, if_false]))
          · obtain ⟨p, hp⟩ : ∃ p, (T j).2.2.2.1 = p + 1 := ⟨(T j).2.2.2.1 - 1, by omega⟩
            rw [if_neg y, hp, plI_s]
            ((try simp only [li_0, li_1, li_2, li_3, li_4, li_5, li_6, li_7, li_8, li_9, li_10, li_11, li_12, li_13, li_14, li_15, li_16, li_17, li_18, li_19, li_20, li_30, li_31, li_32, li_33, li_40, li_41, li_42, li_43, li_45, li_48, li_56, li_57, li_59, li_60, li_61, li_64, li_91, li_97, li_99, li_100, li_122, li_150, li_160, li_200, li_201, li_255, li_300, li_303, li_304, li_305, li_306, li_312, li_400, li_500, li_999, li_1003, li_3099, li_99999, li_100000, li_1000000, li_65, li_23, li_neg]); (try simp (disch := omega) only [ic_le_f, ic_le_t, ic_lt_f, ic_lt_t, ic_eq_f, ic_eq_t, ic_im, ic_mi, ic_mm_t, ic_mm_f, ic_mlt, ic_mle, ic_ilem, ic_iltm, ic_mmle_t, ic_mmle_f, pu_add, pu_mul, pu_in, pu_ck, pu_let, pu_cl, pu_cpok, pu_inr, Option.bind_some, ite_true, ite_false, pu_dm, pu_dv, pu_sub, nt_dm, if_true, if_false]))
            rfl
        · have hg1 : g = 1 := by omega
          rw [hvv, hla, if_neg z, if_neg z, hg1]
          unfold b_X7_rules_94
          ((try simp only [li_0, li_1, li_2, li_3, li_4, li_5, li_6, li_7, li_8, li_9, li_10, li_11, li_12, li_13, li_14, li_15, li_16, li_17, li_18, li_19, li_20, li_30, li_31, li_32, li_33, li_40, li_41, li_42, li_43, li_45, li_48, li_56, li_57, li_59, li_60, li_61, li_64, li_91, li_97, li_99, li_100, li_122, li_150, li_160, li_200, li_201, li_255, li_300, li_303, li_304, li_305, li_306, li_312, li_400, li_500, li_999, li_1003, li_3099, li_99999, li_100000, li_1000000, li_65, li_23, li_neg]); (try simp (disch := omega) only [ic_le_f, ic_le_t, ic_lt_f, ic_lt_t, ic_eq_f, ic_eq_t, ic_im, ic_mi, ic_mm_t, ic_mm_f, ic_mlt, ic_mle, ic_ilem, ic_iltm, ic_mmle_t, ic_mmle_f, pu_add, pu_mul, pu_in, pu_ck, pu_let, pu_cl, pu_cpok, pu_inr, Option.bind_some, ite_true, ite_false, pu_dm, pu_dv, pu_sub, nt_dm, if_true, if_false]))
          rw [g3.1]
          ((try simp only [li_0, li_1, li_2, li_3, li_4, li_5, li_6, li_7, li_8, li_9, li_10, li_11, li_12, li_13, li_14, li_15, li_16, li_17, li_18, li_19, li_20, li_30, li_31, li_32, li_33, li_40, li_41, li_42, li_43, li_45, li_48, li_56, li_57, li_59, li_60, li_61, li_64, li_91, li_97, li_99, li_100, li_122, li_150, li_160, li_200, li_201, li_255, li_300, li_303, li_304, li_305, li_306, li_312, li_400, li_500, li_999, li_1003, li_3099, li_99999, li_100000, li_1000000, li_65, li_23, li_neg]); (try simp (disch := omega) only [ic_le_f, ic_le_t, ic_lt_f, ic_lt_t, ic_eq_f, ic_eq_t, ic_im, ic_mi, ic_mm_t, ic_mm_f, ic_mlt, ic_mle, ic_ilem, ic_iltm, ic_mmle_t, ic_mmle_f, pu_add, pu_mul, pu_in, pu_ck, pu_let, pu_cl, pu_cpok, pu_inr, Option.bind_some, ite_true, ite_false, pu_dm, pu_dv, pu_sub, nt_dm, if_true, if_false]))
    · have : j = 12 := by omega
      subst this
      refine Or.inr ⟨(nI (10 * ((bsF mk 12 - 1) / 3) + (bsF mk 12 - 1) % 3), qa_st (qa_st x 41 2 (nI (H.R 2))) 41 3 (nI (H.R 3))), ?_, rfl, hm1.rulB, (hf.stl (by simp [rL])).stl (by simp [rL]), ho.tr (o36l.q (k := []) (l := [41]) (((qF.rf _ x).stl (by simp)).stl (by simp)) (by simp)) (fun _ z => z) (by simp)⟩
      have hp : 0 < bsF mk 12 := bsF_pos mk 11
      have e1 : baF mk 12 = nI (10 * ((bsF mk 12 - 1) / 3) + (bsF mk 12 - 1) % 3) := if_neg (by omega)
      rw [e1]
      ((try simp only [b_X7_rules_215, li_0, li_1, li_2, li_3, li_4, li_5, li_6, li_7, li_8, li_9, li_10, li_11, li_12, li_13, li_14, li_15, li_16, li_17, li_18, li_19, li_20, li_30, li_31, li_32, li_33, li_40, li_41, li_42, li_43, li_45, li_48, li_56, li_57, li_59, li_60, li_61, li_64, li_91, li_97, li_99, li_100, li_122, li_150, li_160, li_200, li_201, li_255, li_300, li_303, li_304, li_305, li_306, li_312, li_400, li_500, li_999, li_1003, li_3099, li_99999, li_100000, li_1000000, li_65, li_23, li_neg]); (try simp (disch := omega) only [b_X7_rules_215, ic_le_f, ic_le_t, ic_lt_f, ic_lt_t, ic_eq_f, ic_eq_t, ic_im, ic_mi, ic_mm_t, ic_mm_f, ic_mlt, ic_mle, ic_ilem, ic_iltm, ic_mmle_t, ic_mmle_f, pu_add, pu_mul, pu_in, pu_ck, pu_let, pu_cl, pu_cpok, pu_inr, Option.bind_some, ite_true, ite_false, pu_dm, pu_dv, pu_sub, nt_dm, if_true, if_false])))
  have e2 : r1.2 41 2 = nI (H.R 2) := r1m.2.2.1 2 (by omega)
  have e3 : r1.2 41 3 = nI (H.R 3) := r1m.2.2.1 3 (by omega)
  refine ⟨nI (10 * ((bsF mk 12 - 1) / 3) + (bsF mk 12 - 1) % 3), r1.2, r2.2, ?_, ?_, Rel.thk hD a3 b4 b5 b3⟩
  · ((try simp only [f_X6_rules, f_X6_isWeeks, li_0, li_1, li_2, li_3, li_4, li_5, li_6, li_7, li_8, li_9, li_10, li_11, li_12, li_13, li_14, li_15, li_16, li_17, li_18, li_19, li_20, li_30, li_31, li_32, li_33, li_40, li_41, li_42, li_43, li_45, li_48, li_56, li_57, li_59, li_60, li_61, li_64, li_91, li_97, li_99, li_100, li_122, li_150, li_160, li_200, li_201, li_255, li_300, li_303, li_304, li_305, li_306, li_312, li_400, li_500, li_999, li_1003, li_3099, li_99999, li_100000, li_1000000, li_65, li_23, li_neg]); (try simp (disch := omega) only [f_X6_rules, f_X6_isWeeks, ic_le_f, ic_le_t, ic_lt_f, ic_lt_t, ic_eq_f, ic_eq_t, ic_im, ic_mi, ic_mm_t, ic_mm_f, ic_mlt, ic_mle, ic_ilem, ic_iltm, ic_mmle_t, ic_mmle_f, pu_add, pu_mul, pu_in, pu_ck, pu_let, pu_cl, pu_cpok, pu_inr, Option.bind_some, ite_true, ite_false, pu_dm, pu_dv, pu_sub, nt_dm, if_true, if_false]))
    rw [lp_X6_rules_27, a1, ← a2]
  · ((try simp only [f_X7_rules, f_X7_areWeeks, f_X7_in, qa_bl1, li_0, li_1, li_2, li_3, li_4, li_5, li_6, li_7, li_8, li_9, li_10, li_11, li_12, li_13, li_14, li_15, li_16, li_17, li_18, li_19, li_20, li_30, li_31, li_32, li_33, li_40, li_41, li_42, li_43, li_45, li_48, li_56, li_57, li_59, li_60, li_61, li_64, li_91, li_97, li_99, li_100, li_122, li_150, li_160, li_200, li_201, li_255, li_300, li_303, li_304, li_305, li_306, li_312, li_400, li_500, li_999, li_1003, li_3099, li_99999, li_100000, li_1000000, li_65, li_23, li_neg]); (try simp (disch := omega) only [f_X7_rules, f_X7_areWeeks, f_X7_in, qa_bl1, ic_le_f, ic_le_t, ic_lt_f, ic_lt_t, ic_eq_f, ic_eq_t, ic_im, ic_mi, ic_mm_t, ic_mm_f, ic_mlt, ic_mle, ic_ilem, ic_iltm, ic_mmle_t, ic_mmle_f, pu_add, pu_mul, pu_in, pu_ck, pu_let, pu_cl, pu_cpok, pu_inr, Option.bind_some, ite_true, ite_false, pu_dm, pu_dv, pu_sub, nt_dm, if_true, if_false]))
    rw [e2, e3, lp_X7_rules_46, b1, ← b2]
