/-! PURE: the class's house, a whole week -/
/-- how many are left -/
def lfH (A : Nat → AL) : Nat → Nat
  | 0 => 0
  | n + 1 => lfH A n + (if A n 7 = 1 then 0 else 1)
theorem lfH_le (A : Nat → AL) (n : Nat) : lfH A n ≤ n := by
  induction n with
  | zero => exact Nat.le_refl _
  | succ n ih =>
    unfold lfH
    split <;> omega
theorem lfH_eq {A : Nat → AL} (h : ∀ i, AV (A i)) (n : Nat) : lfN (cF A) n = lfH A n := by
  induction n with
  | zero => rfl
  | succ n ih =>
    unfold lfN lfH
    rw [ih]
    have h6 := (h n).2.2.2.2.2.2.1
    by_cases q : A n 7 = 1
    · have hc : cF A n 6 = nM 1 := if_pos ⟨rfl, q⟩
      rw [if_pos q, if_pos hc]
    · have hc : cF A n 6 = nI (A n 6) := if_neg (fun z => q z.2)
      rw [if_neg q, hc, if_neg (fun z => nM_eqI (by omega) (by omega) (Or.inl (by omega)) z.symm)]
theorem kleft {m : qaM} {h : Nat} {H : HS} (c : CH m h H) (v : HV H) : f_X1_left (h + 1) m = some (nI (lfH H.A H.n)) := by
  rw [left_ok c.1, lfH_eq v.av]
theorem tkS_lt {how j : Nat} {T : HS × Nat × Nat} (h : HV T.1) (hb : T.2.2 < 2 ^ 8) : (tkS how j T).2.2 < 2 ^ 8 := by
  unfold tkS
  by_cases h0 : T.1.P.length = 0
  · rw [if_pos h0]
    exact hb
  · rw [if_neg h0]
    have hk := tkK_lt (how := how) (H := T.1) (by omega)
    have hi := h.i8 _ (getD_mem hk)
    exact Nat.or_lt_two_pow hb (Nat.pow_lt_pow_right (by omega) hi)
theorem tkS_lw {how j : Nat} {T : HS × Nat × Nat} : (tkS how j T).1.lw = T.1.lw ∧ (tkS how j T).1.R = T.1.R ∧ (tkS how j T).1.wk = T.1.wk := by
  unfold tkS
  split
  · exact ⟨rfl, rfl, rfl⟩
  · exact ⟨rfl, rfl, rfl⟩
theorem ktkS {m : qaM} {h how wan j : Nat} {v3 : Int32} {T : HS × Nat × Nat} (c : CH m h T.1) (hv : HV T.1) (hh : how ≤ 3) (hj : j < wan) (hw : wan < 2 ^ 31) :
    ∃ m2, b_X0_livesWeek_21 h m (nI wan) (nI how) v3 (nI T.2.1) (nI T.2.2) (nI j) = some (.inl (m2, nI (tkS how j T).2.1, nI (tkS how j T).2.2, nI (j + 1))) ∧ CH m2 h (tkS how j T).1 ∧ qF [h + 3, h + 4] m m2 := by
  unfold b_X0_livesWeek_21 tkS
  by_cases h0 : T.1.P.length = 0
  · rw [if_pos h0]
    refine ⟨m, ?_, c, qF.rf _ _⟩
    ((try simp only [li_0, li_1, li_2, li_3, li_4, li_5, li_6, li_7, li_8, li_9, li_10, li_11, li_12, li_13, li_14, li_15, li_16, li_17, li_18, li_19, li_20, li_30, li_31, li_32, li_33, li_40, li_41, li_42, li_43, li_45, li_48, li_56, li_57, li_59, li_60, li_61, li_64, li_91, li_97, li_99, li_100, li_122, li_150, li_160, li_200, li_201, li_255, li_300, li_303, li_304, li_305, li_306, li_312, li_400, li_500, li_999, li_1003, li_3099, li_99999, li_100000, li_neg]); simp (disch := omega) only [ic_le_f, ic_le_t, ic_lt_f, ic_lt_t, ic_eq_f, ic_eq_t, ic_im, ic_mi, ic_mm_t, ic_mm_f, ic_mlt, ic_mle, ic_ilem, ic_iltm, ic_mmle_t, ic_mmle_f, pu_add, pu_mul, pu_in, pu_ck, pu_let, pu_cl, pu_cpok, pu_inr, Option.bind_some, ite_true, ite_false])
    rw [ctakes c hv hh, if_pos h0]
    ((try simp only [li_0, li_1, li_2, li_3, li_4, li_5, li_6, li_7, li_8, li_9, li_10, li_11, li_12, li_13, li_14, li_15, li_16, li_17, li_18, li_19, li_20, li_30, li_31, li_32, li_33, li_40, li_41, li_42, li_43, li_45, li_48, li_56, li_57, li_59, li_60, li_61, li_64, li_91, li_97, li_99, li_100, li_122, li_150, li_160, li_200, li_201, li_255, li_300, li_303, li_304, li_305, li_306, li_312, li_400, li_500, li_999, li_1003, li_3099, li_99999, li_100000, li_neg]); simp (disch := omega) only [ic_le_f, ic_le_t, ic_lt_f, ic_lt_t, ic_eq_f, ic_eq_t, ic_im, ic_mi, ic_mm_t, ic_mm_f, ic_mlt, ic_mle, ic_ilem, ic_iltm, ic_mmle_t, ic_mmle_f, pu_add, pu_mul, pu_in, pu_ck, pu_let, pu_cl, pu_cpok, pu_inr, Option.bind_some, ite_true, ite_false])
    rw [removesAt_m1]
    ((try simp only [b_X0_livesWeek_62, li_0, li_1, li_2, li_3, li_4, li_5, li_6, li_7, li_8, li_9, li_10, li_11, li_12, li_13, li_14, li_15, li_16, li_17, li_18, li_19, li_20, li_30, li_31, li_32, li_33, li_40, li_41, li_42, li_43, li_45, li_48, li_56, li_57, li_59, li_60, li_61, li_64, li_91, li_97, li_99, li_100, li_122, li_150, li_160, li_200, li_201, li_255, li_300, li_303, li_304, li_305, li_306, li_312, li_400, li_500, li_999, li_1003, li_3099, li_99999, li_100000, li_neg]); simp (disch := omega) only [b_X0_livesWeek_62, ic_le_f, ic_le_t, ic_lt_f, ic_lt_t, ic_eq_f, ic_eq_t, ic_im, ic_mi, ic_mm_t, ic_mm_f, ic_mlt, ic_mle, ic_ilem, ic_iltm, ic_mmle_t, ic_mmle_f, pu_add, pu_mul, pu_in, pu_ck, pu_let, pu_cl, pu_cpok, pu_inr, Option.bind_some, ite_true, ite_false])
  · rw [if_neg h0]
    have hk := tkK_lt (how := how) (H := T.1) (by omega)
    have hi := hv.i8 _ (getD_mem hk)
    obtain ⟨m2, e1, e2, e3⟩ := cremove c hk
    refine ⟨m2, ?_, e2, e3⟩
    ((try simp only [li_0, li_1, li_2, li_3, li_4, li_5, li_6, li_7, li_8, li_9, li_10, li_11, li_12, li_13, li_14, li_15, li_16, li_17, li_18, li_19, li_20, li_30, li_31, li_32, li_33, li_40, li_41, li_42, li_43, li_45, li_48, li_56, li_57, li_59, li_60, li_61, li_64, li_91, li_97, li_99, li_100, li_122, li_150, li_160, li_200, li_201, li_255, li_300, li_303, li_304, li_305, li_306, li_312, li_400, li_500, li_999, li_1003, li_3099, li_99999, li_100000, li_neg]); simp (disch := omega) only [ic_le_f, ic_le_t, ic_lt_f, ic_lt_t, ic_eq_f, ic_eq_t, ic_im, ic_mi, ic_mm_t, ic_mm_f, ic_mlt, ic_mle, ic_ilem, ic_iltm, ic_mmle_t, ic_mmle_f, pu_add, pu_mul, pu_in, pu_ck, pu_let, pu_cl, pu_cpok, pu_inr, Option.bind_some, ite_true, ite_false])
    rw [ctakes c hv hh, if_neg h0]
    ((try simp only [li_0, li_1, li_2, li_3, li_4, li_5, li_6, li_7, li_8, li_9, li_10, li_11, li_12, li_13, li_14, li_15, li_16, li_17, li_18, li_19, li_20, li_30, li_31, li_32, li_33, li_40, li_41, li_42, li_43, li_45, li_48, li_56, li_57, li_59, li_60, li_61, li_64, li_91, li_97, li_99, li_100, li_122, li_150, li_160, li_200, li_201, li_255, li_300, li_303, li_304, li_305, li_306, li_312, li_400, li_500, li_999, li_1003, li_3099, li_99999, li_100000, li_neg]); simp (disch := omega) only [ic_le_f, ic_le_t, ic_lt_f, ic_lt_t, ic_eq_f, ic_eq_t, ic_im, ic_mi, ic_mm_t, ic_mm_f, ic_mlt, ic_mle, ic_ilem, ic_iltm, ic_mmle_t, ic_mmle_f, pu_add, pu_mul, pu_in, pu_ck, pu_let, pu_cl, pu_cpok, pu_inr, Option.bind_some, ite_true, ite_false])
    rw [e1]
    ((try simp only [b_X0_livesWeek_62, li_0, li_1, li_2, li_3, li_4, li_5, li_6, li_7, li_8, li_9, li_10, li_11, li_12, li_13, li_14, li_15, li_16, li_17, li_18, li_19, li_20, li_30, li_31, li_32, li_33, li_40, li_41, li_42, li_43, li_45, li_48, li_56, li_57, li_59, li_60, li_61, li_64, li_91, li_97, li_99, li_100, li_122, li_150, li_160, li_200, li_201, li_255, li_300, li_303, li_304, li_305, li_306, li_312, li_400, li_500, li_999, li_1003, li_3099, li_99999, li_100000, li_neg]); simp (disch := omega) only [b_X0_livesWeek_62, ic_le_f, ic_le_t, ic_lt_f, ic_lt_t, ic_eq_f, ic_eq_t, ic_im, ic_mi, ic_mm_t, ic_mm_f, ic_mlt, ic_mle, ic_ilem, ic_iltm, ic_mmle_t, ic_mmle_f, pu_add, pu_mul, pu_in, pu_ck, pu_let, pu_cl, pu_cpok, pu_inr, Option.bind_some, ite_true, ite_false])
    rw [pu_bitor hi]
/-- a house's tally: too few, who was out, the first week (from 1 on; 0: none), how many weeks -/
def CT (m : qaM) (h tf ou fi li : Nat) : Prop := m h 5 = nI tf ∧ m h 6 = nI ou ∧ m h 7 = plI fi ∧ m h 8 = nI li
def fiN (fi li a b : Nat) : Nat := if fi = 0 ∧ b < a then li + 1 else fi
theorem drN_lw : ∀ (p : Nat) {H : HS}, (drN p H).lw = H.lw := by
  intro p
  induction p with
  | zero => exact fun {H} => rfl
  | succ p ih => exact fun {H} => ih.trans drS_lw
theorem kend {m : qaM} {h few v tf ou fi li a : Nat} {H : HS} (c : CH m h H) (hv : HV H) (t : CT m h tf ou fi li) (ha : a ≤ 8) (hf : fi < 2 ^ 30) :
    (if m h 7 = nM 1 then Option.bind (f_X1_left (h + 1) m) (fun q10 => if nI a ≤ q10 then (b_X0_livesWeek_109 h m (nI few) (nI v)) else (qa_lt (qa_st m h 7 (m h 8)) (fun m11 => b_X0_livesWeek_109 h m11 (nI few) (nI v)))) else (b_X0_livesWeek_109 h m (nI few) (nI v)))
      = some (nI few, qa_st (qa_st (qa_st (qa_st (qa_st m h 7 (plI (fiN fi li a (lfH H.A H.n)))) h 5 (nI (tf + few))) h 6 (nI (ou ||| v))) h 8 (nI (li + 1))) h 3 (nI (H.wk + 1))) := by
  have h8 := hv.n8
  have hl := lfH_le H.A H.n
  have hst : ∀ x : qaM, x h 5 = nI tf → x h 6 = nI ou → x h 8 = nI li → x h 3 = nI H.wk → b_X0_livesWeek_109 h x (nI few) (nI v) = some (nI few, qa_st (qa_st (qa_st (qa_st x h 5 (nI (tf + few))) h 6 (nI (ou ||| v))) h 8 (nI (li + 1))) h 3 (nI (H.wk + 1))) := by
    intro x x5 x6 x8 x3
    unfold b_X0_livesWeek_109
    simp only [li_0, li_1, li_2, li_3, li_4, li_5, li_6, li_7, li_8, li_9, li_10, li_11, li_12, li_13, li_14, li_15, li_16, li_17, li_18, li_19, li_20, li_30, li_31, li_32, li_33, li_40, li_41, li_42, li_43, li_45, li_48, li_56, li_57, li_59, li_60, li_61, li_64, li_91, li_97, li_99, li_100, li_122, li_150, li_160, li_200, li_201, li_255, li_300, li_303, li_304, li_305, li_306, li_312, li_400, li_500, li_999, li_1003, li_3099, li_99999, li_100000, li_neg]
    rw [pu_let, x5, pu_add, pu_let, st_s, up_n (by omega), x6, pu_or, pu_let, st_s, up_n (by omega), st_s, up_n (by omega), x8, pu_add, pu_let, st_s, up_n (by omega), st_s, up_n (by omega), st_s, up_n (by omega), x3, pu_add]
  have hself : qa_st m h 7 (m h 7) = m := by
    funext a
    by_cases q : a = h
    · subst q
      rw [st_s]
      funext b
      by_cases q2 : b = 7
      · rw [q2, up_s]
      · rw [up_n q2]
    · rw [st_n q]
  obtain ⟨t5, t6, t7, t8⟩ := t
  by_cases q0 : fi = 0
  · by_cases q : lfH H.A H.n < a
    · have hF : fiN fi li a (lfH H.A H.n) = li + 1 := if_pos ⟨q0, q⟩
      rw [hF, plI_s, t7, q0, plI_0, if_pos rfl, kleft c hv, Option.bind_some]
      ((try simp only [li_0, li_1, li_2, li_3, li_4, li_5, li_6, li_7, li_8, li_9, li_10, li_11, li_12, li_13, li_14, li_15, li_16, li_17, li_18, li_19, li_20, li_30, li_31, li_32, li_33, li_40, li_41, li_42, li_43, li_45, li_48, li_56, li_57, li_59, li_60, li_61, li_64, li_91, li_97, li_99, li_100, li_122, li_150, li_160, li_200, li_201, li_255, li_300, li_303, li_304, li_305, li_306, li_312, li_400, li_500, li_999, li_1003, li_3099, li_99999, li_100000, li_neg]); simp (disch := omega) only [ic_le_f, ic_le_t, ic_lt_f, ic_lt_t, ic_eq_f, ic_eq_t, ic_im, ic_mi, ic_mm_t, ic_mm_f, ic_mlt, ic_mle, ic_ilem, ic_iltm, ic_mmle_t, ic_mmle_f, pu_add, pu_mul, pu_in, pu_ck, pu_let, pu_cl, pu_cpok, pu_inr, Option.bind_some, ite_true, ite_false])
      rw [t8]
      exact hst _ (by rw [st_s, up_n (by omega)]; exact t5) (by rw [st_s, up_n (by omega)]; exact t6) (by rw [st_s, up_n (by omega)]; exact t8) (by rw [st_s, up_n (by omega)]; exact c.2.2.2.1)
    · have hF : fiN fi li a (lfH H.A H.n) = fi := if_neg (fun z => q z.2)
      rw [hF, ← t7, hself, t7, q0, plI_0, if_pos rfl, kleft c hv, Option.bind_some]
      ((try simp only [li_0, li_1, li_2, li_3, li_4, li_5, li_6, li_7, li_8, li_9, li_10, li_11, li_12, li_13, li_14, li_15, li_16, li_17, li_18, li_19, li_20, li_30, li_31, li_32, li_33, li_40, li_41, li_42, li_43, li_45, li_48, li_56, li_57, li_59, li_60, li_61, li_64, li_91, li_97, li_99, li_100, li_122, li_150, li_160, li_200, li_201, li_255, li_300, li_303, li_304, li_305, li_306, li_312, li_400, li_500, li_999, li_1003, li_3099, li_99999, li_100000, li_neg]); simp (disch := omega) only [ic_le_f, ic_le_t, ic_lt_f, ic_lt_t, ic_eq_f, ic_eq_t, ic_im, ic_mi, ic_mm_t, ic_mm_f, ic_mlt, ic_mle, ic_ilem, ic_iltm, ic_mmle_t, ic_mmle_f, pu_add, pu_mul, pu_in, pu_ck, pu_let, pu_cl, pu_cpok, pu_inr, Option.bind_some, ite_true, ite_false])
      exact hst m t5 t6 t8 c.2.2.2.1
  · have hF : fiN fi li a (lfH H.A H.n) = fi := if_neg (fun z => q0 z.1)
    have hn : ¬ m h 7 = nM 1 := by
      rw [t7]
      unfold plI
      rw [if_neg q0]
      exact fun z => nM_eqI (by omega) (by omega) (Or.inl (by omega)) z.symm
    rw [hF, ← t7, hself, if_neg hn, hst m t5 t6 t8 c.2.2.2.1]
