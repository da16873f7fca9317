/-! PURE: the class's house, a whole week -/
/-- how many are left -/
def lfH (A : Nat → AL) : Nat → Nat
  | 0 => 0
  | n + 1 => lfH A n + (if A n 7 = 1 then 0 else 1)
theorem lfH_le (A : Nat → AL) (n : Nat) : lfH A n ≤ n := by
  induction n with
  | zero => exact Nat.le_refl _
  | succ n ih =>
    unfold lfH
    split <;> omega
theorem lfH_eq {A : Nat → AL} (h : ∀ i, AV (A i)) (n : Nat) : lfN (cF A) n = lfH A n := by
  induction n with
  | zero => rfl
  | succ n ih =>
    unfold lfN lfH
    rw [ih]
    have h6 := (h n).2.2.2.2.2.2.1
    by_cases q : A n 7 = 1
    · have hc : cF A n 6 = nM 1 := if_pos ⟨rfl, q⟩
      rw [if_pos q, if_pos hc]
    · have hc : cF A n 6 = nI (A n 6) := if_neg (fun z => q z.2)
      rw [if_neg q, hc, if_neg (fun z => nM_eqI (by omega) (by omega) (Or.inl (by omega)) z.symm)]
theorem kleft {m : qaM} {h : Nat} {H : HS} (c : CH m h H) (v : HV H) : f_X1_left (h + 1) m = some (nI (lfH H.A H.n)) := by
  rw [left_ok c.1, lfH_eq v.av]
theorem tkS_lt {how j : Nat} {T : HS × Nat × Nat} (h : HV T.1) (hb : T.2.2 < 2 ^ 8) : (tkS how j T).2.2 < 2 ^ 8 := by
  unfold tkS
  by_cases h0 : T.1.P.length = 0
  · rw [if_pos h0]
    exact hb
  · rw [if_neg h0]
    have hk := tkK_lt (how := how) (H := T.1) (by omega)
    have hi := h.i8 _ (getD_mem hk)
    exact Nat.or_lt_two_pow hb (Nat.pow_lt_pow_right (by omega) hi)
theorem tkS_lw {how j : Nat} {T : HS × Nat × Nat} : (tkS how j T).1.lw = T.1.lw ∧ (tkS how j T).1.R = T.1.R ∧ (tkS how j T).1.wk = T.1.wk := by
  unfold tkS
  split
  · exact ⟨rfl, rfl, rfl⟩
  · exact ⟨rfl, rfl, rfl⟩
theorem ktkS {m : qaM} {h how wan j : Nat} {v3 : Int32} {T : HS × Nat × Nat} (c : CH m h T.1) (hv : HV T.1) (hh : how ≤ 3) (hj : j < wan) (hw : wan < 2 ^ 31) :
    ∃ m2, b_X0_livesWeek_21 h m (nI wan) (nI how) v3 (nI T.2.1) (nI T.2.2) (nI j) = some (.inl (m2, nI (tkS how j T).2.1, nI (tkS how j T).2.2, nI (j + 1))) ∧ CH m2 h (tkS how j T).1 ∧ qF [h + 3, h + 4] m m2 := by
  unfold b_X0_livesWeek_21 tkS
  by_cases h0 : T.1.P.length = 0
  · rw [if_pos h0]
    refine ⟨m, ?_, c, qF.rf _ _⟩
    ((try simp only [li_0, li_1, li_2, li_3, li_4, li_5, li_6, li_7, li_8, li_9, li_10, li_11, li_12, li_13, li_14, li_15, li_16, li_17, li_18, li_19, li_20, li_30, li_31, li_32, li_33, li_40, li_41, li_42, li_43, li_45, li_48, li_56, li_57, li_59, li_60, li_61, li_64, li_91, li_97, li_99, li_100, li_122, li_150, li_160, li_200, li_201, li_255, li_300, li_303, li_304, li_305, li_306, li_312, li_400, li_500, li_999, li_1003, li_3099, li_99999, li_100000, li_neg]); simp (disch := omega) only [ic_le_f, ic_le_t, ic_lt_f, ic_lt_t, ic_eq_f, ic_eq_t, ic_im, ic_mi, ic_mm_t, ic_mm_f, ic_mlt, ic_mle, ic_ilem, ic_iltm, ic_mmle_t, ic_mmle_f, pu_add, pu_mul, pu_in, pu_ck, pu_let, pu_cl, pu_cpok, pu_inr, Option.bind_some, ite_true, ite_false])
    rw [ctakes c hv hh, if_pos h0]
    ((try simp only [li_0, li_1, li_2, li_3, li_4, li_5, li_6, li_7, li_8, li_9, li_10, li_11, li_12, li_13, li_14, li_15, li_16, li_17, li_18, li_19, li_20, li_30, li_31, li_32, li_33, li_40, li_41, li_42, li_43, li_45, li_48, li_56, li_57, li_59, li_60, li_61, li_64, li_91, li_97, li_99, li_100, li_122, li_150, li_160, li_200, li_201, li_255, li_300, li_303, li_304, li_305, li_306, li_312, li_400, li_500, li_999, li_1003, li_3099, li_99999, li_100000, li_neg]); simp (disch := omega) only [ic_le_f, ic_le_t, ic_lt_f, ic_lt_t, ic_eq_f, ic_eq_t, ic_im, ic_mi, ic_mm_t, ic_mm_f, ic_mlt, ic_mle, ic_ilem, ic_iltm, ic_mmle_t, ic_mmle_f, pu_add, pu_mul, pu_in, pu_ck, pu_let, pu_cl, pu_cpok, pu_inr, Option.bind_some, ite_true, ite_false])
    rw [removesAt_m1]
    ((try simp only [b_X0_livesWeek_62, li_0, li_1, li_2, li_3, li_4, li_5, li_6, li_7, li_8, li_9, li_10, li_11, li_12, li_13, li_14, li_15, li_16, li_17, li_18, li_19, li_20, li_30, li_31, li_32, li_33, li_40, li_41, li_42, li_43, li_45, li_48, li_56, li_57, li_59, li_60, li_61, li_64, li_91, li_97, li_99, li_100, li_122, li_150, li_160, li_200, li_201, li_255, li_300, li_303, li_304, li_305, li_306, li_312, li_400, li_500, li_999, li_1003, li_3099, li_99999, li_100000, li_neg]); simp (disch := omega) only [b_X0_livesWeek_62, ic_le_f, ic_le_t, ic_lt_f, ic_lt_t, ic_eq_f, ic_eq_t, ic_im, ic_mi, ic_mm_t, ic_mm_f, ic_mlt, ic_mle, ic_ilem, ic_iltm, ic_mmle_t, ic_mmle_f, pu_add, pu_mul, pu_in, pu_ck, pu_let, pu_cl, pu_cpok, pu_inr, Option.bind_some, ite_true, ite_false])
  · rw [if_neg h0]
    have hk := tkK_lt (how := how) (H := T.1) (by omega)
    have hi := hv.i8 _ (getD_mem hk)
    obtain ⟨m2, e1, e2, e3⟩ := cremove c hk
    refine ⟨m2, ?_, e2, e3⟩
    ((try simp only [li_0, li_1, li_2, li_3, li_4, li_5, li_6, li_7, li_8, li_9, li_10, li_11, li_12, li_13, li_14, li_15, li_16, li_17, li_18, li_19, li_20, li_30, li_31, li_32, li_33, li_40, li_41, li_42, li_43, li_45, li_48, li_56, li_57, li_59, li_60, li_61, li_64, li_91, li_97, li_99, li_100, li_122, li_150, li_160, li_200, li_201, li_255, li_300, li_303, li_304, li_305, li_306, li_312, li_400, li_500, li_999, li_1003, li_3099, li_99999, li_100000, li_neg]); simp (disch := omega) only [ic_le_f, ic_le_t, ic_lt_f, ic_lt_t, ic_eq_f, ic_eq_t, ic_im, ic_mi, ic_mm_t, ic_mm_f, ic_mlt, ic_mle, ic_ilem, ic_iltm, ic_mmle_t, ic_mmle_f, pu_add, pu_mul, pu_in, pu_ck, pu_let, pu_cl, pu_cpok, pu_inr, Option.bind_some, ite_true, ite_false])
    rw [ctakes c hv hh, if_neg h0]
    ((try simp only [li_0, li_1, li_2, li_3, li_4, li_5, li_6, li_7, li_8, li_9, li_10, li_11, li_12, li_13, li_14, li_15, li_16, li_17, li_18, li_19, li_20, li_30, li_31, li_32, li_33, li_40, li_41, li_42, li_43, li_45, li_48, li_56, li_57, li_59, li_60, li_61, li_64, li_91, li_97, li_99, li_100, li_122, li_150, li_160, li_200, li_201, li_255, li_300, li_303, li_304, li_305, li_306, li_312, li_400, li_500, li_999, li_1003, li_3099, li_99999, li_100000, li_neg]); simp (disch := omega) only [ic_le_f, ic_le_t, ic_lt_f, ic_lt_t, ic_eq_f, ic_eq_t, ic_im, ic_mi, ic_mm_t, ic_mm_f, ic_mlt, ic_mle, ic_ilem, ic_iltm, ic_mmle_t, ic_mmle_f, pu_add, pu_mul, pu_in, pu_ck, pu_let, pu_cl, pu_cpok, pu_inr, Option.bind_some, ite_true, ite_false])
    rw [e1]
    ((try simp only [b_X0_livesWeek_62, li_0, li_1, li_2, li_3, li_4, li_5, li_6, li_7, li_8, li_9, li_10, li_11, li_12, li_13, li_14, li_15, li_16, li_17, li_18, li_19, li_20, li_30, li_31, li_32, li_33, li_40, li_41, li_42, li_43, li_45, li_48, li_56, li_57, li_59, li_60, li_61, li_64, li_91, li_97, li_99, li_100, li_122, li_150, li_160, li_200, li_201, li_255, li_300, li_303, li_304, li_305, li_306, li_312, li_400, li_500, li_999, li_1003, li_3099, li_99999, li_100000, li_neg]); simp (disch := omega) only [b_X0_livesWeek_62, ic_le_f, ic_le_t, ic_lt_f, ic_lt_t, ic_eq_f, ic_eq_t, ic_im, ic_mi, ic_mm_t, ic_mm_f, ic_mlt, ic_mle, ic_ilem, ic_iltm, ic_mmle_t, ic_mmle_f, pu_add, pu_mul, pu_in, pu_ck, pu_let, pu_cl, pu_cpok, pu_inr, Option.bind_some, ite_true, ite_false])
    rw [pu_bitor hi]
/-- a house's tally: too few, who was out, the first week (from 1 on; 0: none), how many weeks -/
def CT (m : qaM) (h tf ou fi li : Nat) : Prop := m h 5 = nI tf ∧ m h 6 = nI ou ∧ m h 7 = plI fi ∧ m h 8 = nI li
def fiN (fi li a b : Nat) : Nat := if fi = 0 ∧ b < a then li + 1 else fi
theorem drN_lw : ∀ (p : Nat) {H : HS}, (drN p H).lw = H.lw := by
  intro p
  induction p with
  | zero => exact fun {H} => rfl
  | succ p ih => exact fun {H} => ih.trans drS_lw
theorem kend {m : qaM} {h few v tf ou fi li a : Nat} {H : HS} (c : CH m h H) (hv : HV H) (t : CT m h tf ou fi li) (ha : a ≤ 8) (hf : fi < 2 ^ 30) :
    (if m h 7 = nM 1 then Option.bind (f_X1_left (h + 1) m) (fun q10 => if nI a ≤ q10 then (b_X0_livesWeek_109 h m (nI few) (nI v)) else (qa_lt (qa_st m h 7 (m h 8)) (fun m11 => b_X0_livesWeek_109 h m11 (nI few) (nI v)))) else (b_X0_livesWeek_109 h m (nI few) (nI v)))
      = some (nI few, qa_st (qa_st (qa_st (qa_st (qa_st m h 7 (plI (fiN fi li a (lfH H.A H.n)))) h 5 (nI (tf + few))) h 6 (nI (ou ||| v))) h 8 (nI (li + 1))) h 3 (nI (H.wk + 1))) := by
  have h8 := hv.n8
  have hl := lfH_le H.A H.n
  have hst : ∀ x : qaM, x h 5 = nI tf → x h 6 = nI ou → x h 8 = nI li → x h 3 = nI H.wk → b_X0_livesWeek_109 h x (nI few) (nI v) = some (nI few, qa_st (qa_st (qa_st (qa_st x h 5 (nI (tf + few))) h 6 (nI (ou ||| v))) h 8 (nI (li + 1))) h 3 (nI (H.wk + 1))) := by
    intro x x5 x6 x8 x3
    unfold b_X0_livesWeek_109
    simp only [li_0, li_1, li_2, li_3, li_4, li_5, li_6, li_7, li_8, li_9, li_10, li_11, li_12, li_13, li_14, li_15, li_16, li_17, li_18, li_19, li_20, li_30, li_31, li_32, li_33, li_40, li_41, li_42, li_43, li_45, li_48, li_56, li_57, li_59, li_60, li_61, li_64, li_91, li_97, li_99, li_100, li_122, li_150, li_160, li_200, li_201, li_255, li_300, li_303, li_304, li_305, li_306, li_312, li_400, li_500, li_999, li_1003, li_3099, li_99999, li_100000, li_neg]
    rw [pu_let, x5, pu_add, pu_let, st_s, up_n (by omega), x6, pu_or, pu_let, st_s, up_n (by omega), st_s, up_n (by omega), x8, pu_add, pu_let, st_s, up_n (by omega), st_s, up_n (by omega), st_s, up_n (by omega), x3, pu_add]
  have hself : qa_st m h 7 (m h 7) = m := by
    funext a
    by_cases q : a = h
    · subst q
      rw [st_s]
      funext b
      by_cases q2 : b = 7
      · rw [q2, up_s]
      · rw [up_n q2]
    · rw [st_n q]
  obtain ⟨t5, t6, t7, t8⟩ := t
  by_cases q0 : fi = 0
  · by_cases q : lfH H.A H.n < a
    · have hF : fiN fi li a (lfH H.A H.n) = li + 1 := if_pos ⟨q0, q⟩
      rw [hF, plI_s, t7, q0, plI_0, if_pos rfl, kleft c hv, Option.bind_some]
      ((try simp only [li_0, li_1, li_2, li_3, li_4, li_5, li_6, li_7, li_8, li_9, li_10, li_11, li_12, li_13, li_14, li_15, li_16, li_17, li_18, li_19, li_20, li_30, li_31, li_32, li_33, li_40, li_41, li_42, li_43, li_45, li_48, li_56, li_57, li_59, li_60, li_61, li_64, li_91, li_97, li_99, li_100, li_122, li_150, li_160, li_200, li_201, li_255, li_300, li_303, li_304, li_305, li_306, li_312, li_400, li_500, li_999, li_1003, li_3099, li_99999, li_100000, li_neg]); simp (disch := omega) only [ic_le_f, ic_le_t, ic_lt_f, ic_lt_t, ic_eq_f, ic_eq_t, ic_im, ic_mi, ic_mm_t, ic_mm_f, ic_mlt, ic_mle, ic_ilem, ic_iltm, ic_mmle_t, ic_mmle_f, pu_add, pu_mul, pu_in, pu_ck, pu_let, pu_cl, pu_cpok, pu_inr, Option.bind_some, ite_true, ite_false])
      rw [t8]
      exact hst _ (by rw [st_s, up_n (by omega)]; exact t5) (by rw [st_s, up_n (by omega)]; exact t6) (by rw [st_s, up_n (by omega)]; exact t8) (by rw [st_s, up_n (by omega)]; exact c.2.2.2.1)
    · have hF : fiN fi li a (lfH H.A H.n) = fi := if_neg (fun z => q z.2)
      rw [hF, ← t7, hself, t7, q0, plI_0, if_pos rfl, kleft c hv, Option.bind_some]
      ((try simp only [li_0, li_1, li_2, li_3, li_4, li_5, li_6, li_7, li_8, li_9, li_10, li_11, li_12, li_13, li_14, li_15, li_16, li_17, li_18, li_19, li_20, li_30, li_31, li_32, li_33, li_40, li_41, li_42, li_43, li_45, li_48, li_56, li_57, li_59, li_60, li_61, li_64, li_91, li_97, li_99, li_100, li_122, li_150, li_160, li_200, li_201, li_255, li_300, li_303, li_304, li_305, li_306, li_312, li_400, li_500, li_999, li_1003, li_3099, li_99999, li_100000, li_neg]); simp (disch := omega) only [ic_le_f, ic_le_t, ic_lt_f, ic_lt_t, ic_eq_f, ic_eq_t, ic_im, ic_mi, ic_mm_t, ic_mm_f, ic_mlt, ic_mle, ic_ilem, ic_iltm, ic_mmle_t, ic_mmle_f, pu_add, pu_mul, pu_in, pu_ck, pu_let, pu_cl, pu_cpok, pu_inr, Option.bind_some, ite_true, ite_false])
      exact hst m t5 t6 t8 c.2.2.2.1
  · have hF : fiN fi li a (lfH H.A H.n) = fi := if_neg (fun z => q0 z.1)
    have hn : ¬ m h 7 = nM 1 := by
      rw [t7]
      unfold plI
      rw [if_neg q0]
      exact fun z => nM_eqI (by omega) (by omega) (Or.inl (by omega)) z.symm
    rw [hF, ← t7, hself, if_neg hn, hst m t5 t6 t8 c.2.2.2.1]
theorem weekA_1 (S : SF) (wan how : Nat) (H : HS) : (weekA S wan how H).1 = (drp (was S (tak wan how (cb H)).2.2 (yel S (tak wan how (cb H)).1))).aged := rfl
theorem itN_lw {f : Nat → HS → HS} (hf : ∀ j X, (f j X).lw = X.lw) : ∀ (n : Nat) (H : HS), (itN f n H).lw = H.lw := by
  intro n
  induction n with
  | zero => exact fun _ => rfl
  | succ n ih => exact fun H => (hf n _).trans (ih H)
theorem cbS_lw (j : Nat) (X : HS) : (cbS j X).lw = X.lw := by
  unfold cbS
  repeat' split
  all_goals rfl
theorem waS_lw (S : SF) (v j : Nat) (X : HS) : (waS S v j X).lw = X.lw := by
  unfold waS
  repeat' split
  all_goals rfl
theorem klive {m : qaM} {h wan how N tf ou fi li : Nat} {H : HS} {S : SF} (c : CH m h H) (hv : HV H) (ct : CT m h tf ou fi li) (hh : 8 ≤ h) (t : TXc m N S) (sv : SV S) (hN : H.lw < N) (hw : wan ≤ 8) (hho : how ≤ 3) (hf : fi < 2 ^ 30) :
    ∃ m2, f_X0_livesWeek h m (nI wan) (nI how) = some (nI (weekA S wan how H).2.1, m2) ∧ CH m2 h (weekA S wan how H).1
      ∧ CT m2 h (tf + (weekA S wan how H).2.1) (ou ||| (weekA S wan how H).2.2) (fiN fi li (lfH H.A H.n) (lfH (weekA S wan how H).1.A (weekA S wan how H).1.n)) (li + 1) ∧ qF [h, h + 2, h + 3, h + 4, 4, 5] m m2 := by
  have h8 := hv.n8
  have hlf := lfH_le H.A H.n
  obtain ⟨m1, a1, a2, a3⟩ := ccb c hv
  have va := cb_V hv
  have la : (cb H).lw = H.lw := itN_lw cbS_lw _ _
  -- the end of the week, from what was taken on
  have hrest : ∀ (x : qaM) (T : HS × Nat × Nat), CH x h T.1 → HV T.1 → WV T.1 T.2.2 0 → T.2.2 < 2 ^ 8 → T.1.lw = H.lw → qF [h + 2, h + 3, h + 4, 4, 5] m x →
      ∃ m2, b_X0_livesWeek_68 h x (nI (lfH H.A H.n)) (nI T.2.1) (nI T.2.2) = some (nI T.2.1, m2) ∧ CH m2 h (drp (was S T.2.2 (yel S T.1))).aged
        ∧ CT m2 h (tf + T.2.1) (ou ||| T.2.2) (fiN fi li (lfH H.A H.n) (lfH (drp (was S T.2.2 (yel S T.1))).A (drp (was S T.2.2 (yel S T.1))).n)) (li + 1) ∧ qF [h, h + 2, h + 3, h + 4, 4, 5] m m2 := by
    intro x T cx vx wx bx lx fx
    have tx := t.F fx (by simp <;> omega) (by simp <;> omega) (by simp <;> omega)
    obtain ⟨m3, b1, b2, b3⟩ := cyel cx vx wx hh tx sv (by rw [lx]; exact hN)
    have vb := yel_V (S := S) vx wx
    have lb : (yel S T.1).lw = H.lw := (itN_lw (f := yeS S) (fun _ _ => rfl) _ _).trans lx
    have f3 : qF [h + 2, h + 3, h + 4, 4, 5] m m3 := fx.t2 b3 (by simp)
    have t3 := t.F f3 (by simp <;> omega) (by simp <;> omega) (by simp <;> omega)
    obtain ⟨m4, d1, d2, d3⟩ := kwas b2 vb.1 vb.2.1 hh t3 sv (by rw [lb]; exact hN) (by omega)
    have vd := was_V (S := S) vb.1 vb.2.1
    have f4 : qF [h + 2, h + 3, h + 4, 4, 5] m m4 := f3.t2 d3 (by simp)
    obtain ⟨m5, e1, e2, e3⟩ := kdrp d2 vd.1
    have ve := drN_V _ vd.1 (Nat.le_refl _)
    have f5 : qF [h + 2, h + 3, h + 4, 4, 5] m m5 := f4.t2 e3 (by simp)
    have h5 : m5 h = m h := f5 h (by simp; omega)
    have ct5 : CT m5 h tf ou fi li := by
      unfold CT
      rw [h5]
      exact ct
    have he := kend (few := T.2.1) (v := T.2.2) (a := lfH H.A H.n) e2 ve.1 ct5 (by omega) hf
    refine ⟨_, Eq.trans ?_ he, ?_, ?_, ?_⟩
    · unfold b_X0_livesWeek_68
      rw [b1, Option.bind_some, d1, Option.bind_some, e1, Option.bind_some]
      simp only [li_0, li_1, li_2, li_3, li_4, li_5, li_6, li_7, li_8, li_9, li_10, li_11, li_12, li_13, li_14, li_15, li_16, li_17, li_18, li_19, li_20, li_30, li_31, li_32, li_33, li_40, li_41, li_42, li_43, li_45, li_48, li_56, li_57, li_59, li_60, li_61, li_64, li_91, li_97, li_99, li_100, li_122, li_150, li_160, li_200, li_201, li_255, li_300, li_303, li_304, li_305, li_306, li_312, li_400, li_500, li_999, li_1003, li_3099, li_99999, li_100000, li_neg]
    · refine ⟨?_, ?_, ?_, ?_, ?_⟩
      · exact e2.1.F (l := [h]) (fun a ha => by
          have ha2 : a ≠ h := by simpa using ha
          rw [st_n ha2, st_n ha2, st_n ha2, st_n ha2, st_n ha2]) (by simp <;> omega) (by simp <;> omega)
      · exact e2.2.1.F (l := [h]) (fun a ha => by
          have ha2 : a ≠ h := by simpa using ha
          rw [st_n ha2, st_n ha2, st_n ha2, st_n ha2, st_n ha2]) (by simp <;> omega) (by simp <;> omega)
      · rw [st_n (by omega), st_n (by omega), st_n (by omega), st_n (by omega), st_n (by omega)]
        exact e2.2.2.1
      · rw [st_s, up_s]
        rfl
      · rw [st_s, up_n (by omega), st_s, up_n (by omega), st_s, up_n (by omega), st_s, up_n (by omega), st_s, up_n (by omega)]
        exact e2.2.2.2.2
    · refine ⟨?_, ?_, ?_, ?_⟩
      · rw [st_s, up_n (by omega), st_s, up_n (by omega), st_s, up_n (by omega), st_s, up_s]
      · rw [st_s, up_n (by omega), st_s, up_n (by omega), st_s, up_s]
      · rw [st_s, up_n (by omega), st_s, up_n (by omega), st_s, up_n (by omega), st_s, up_n (by omega), st_s, up_s]
      · rw [st_s, up_n (by omega), st_s, up_s]
    · intro a ha
      have ha2 : a ≠ h ∧ a ∉ [h + 2, h + 3, h + 4, 4, 5] := by simpa using ha
      rw [st_n ha2.1, st_n ha2.1, st_n ha2.1, st_n ha2.1, st_n ha2.1]
      exact f5 a ha2.2
  obtain ⟨r, h1, h2⟩ := lp_at (f := fun s : qaM × Int32 × Int32 × Int32 => b_X0_livesWeek_21 h s.1 (nI wan) (nI how) (nI (lfH H.A H.n)) s.2.1 s.2.2.1 s.2.2.2)
    (fun j s => ∃ T : HS × Nat × Nat, T = itN (tkS how) j (cb H, 0, 0) ∧ s.2 = (nI T.2.1, nI T.2.2, nI j) ∧ CH s.1 h T.1 ∧ HV T.1 ∧ WV T.1 T.2.2 0 ∧ T.2.2 < 2 ^ 8 ∧ T.1.lw = H.lw ∧ qF [h + 2, h + 3, h + 4, 4, 5] m s.1)
    (fun r => r.1 = nI (weekA S wan how H).2.1 ∧ CH r.2 h (weekA S wan how H).1
      ∧ CT r.2 h (tf + (weekA S wan how H).2.1) (ou ||| (weekA S wan how H).2.2) (fiN fi li (lfH H.A H.n) (lfH (weekA S wan how H).1.A (weekA S wan how H).1.n)) (li + 1) ∧ qF [h, h + 2, h + 3, h + 4, 4, 5] m r.2) wan
    (s := (m1, nI 0, nI 0, nI 0)) ⟨(cb H, 0, 0), rfl, rfl, a2, va.1, (fun i _ hb => by
      have hb1 : (0 : Nat).testBit i = true := hb
      rw [Nat.zero_testBit] at hb1
      exact absurd hb1 (by decide)), show 0 < 2 ^ 8 by decide, la, a3.mo (by simp)⟩ (by omega) (by
    rintro j ⟨x, k⟩ hj ⟨T, hT, hk, k1, k2, k3, k4, k5, k6⟩
    have hk2 : k = (nI T.2.1, nI T.2.2, nI j) := hk
    subst hk2
    rcases Nat.lt_or_ge j wan with q | q
    · obtain ⟨x2, g1, g2, g3⟩ := ktkS (v3 := nI (lfH H.A H.n)) k1 k2 hho q (by omega)
      have g4 := tkS_V (how := how) (j := j) k2 k3
      refine Or.inl ⟨_, g1, q, tkS how j T, by rw [hT]; rfl, rfl, g2, g4.1, g4.2.1, tkS_lt k2 k4, tkS_lw.1.trans k5, k6.t2 g3 (by simp)⟩
    · have hjw : j = wan := by omega
      subst hjw
      obtain ⟨x2, g1, g2, g3, g4⟩ := hrest x T k1 k2 k3 k4 k5 k6
      have hT2 : T = tak j how (cb H) := hT
      refine Or.inr ⟨(nI T.2.1, x2), ?_, ?_, ?_, ?_, g4⟩
      · show b_X0_livesWeek_21 h x (nI j) (nI how) (nI (lfH H.A H.n)) (nI T.2.1) (nI T.2.2) (nI j) = _
        unfold b_X0_livesWeek_21
        ((try simp only [li_0, li_1, li_2, li_3, li_4, li_5, li_6, li_7, li_8, li_9, li_10, li_11, li_12, li_13, li_14, li_15, li_16, li_17, li_18, li_19, li_20, li_30, li_31, li_32, li_33, li_40, li_41, li_42, li_43, li_45, li_48, li_56, li_57, li_59, li_60, li_61, li_64, li_91, li_97, li_99, li_100, li_122, li_150, li_160, li_200, li_201, li_255, li_300, li_303, li_304, li_305, li_306, li_312, li_400, li_500, li_999, li_1003, li_3099, li_99999, li_100000, li_neg]); simp (disch := omega) only [ic_le_f, ic_le_t, ic_lt_f, ic_lt_t, ic_eq_f, ic_eq_t, ic_im, ic_mi, ic_mm_t, ic_mm_f, ic_mlt, ic_mle, ic_ilem, ic_iltm, ic_mmle_t, ic_mmle_f, pu_add, pu_mul, pu_in, pu_ck, pu_let, pu_cl, pu_cpok, pu_inr, Option.bind_some, ite_true, ite_false])
        rw [g1, pu_inr]
      · rw [hT2]
        rfl
      · rw [hT2] at g2
        exact g2
      · rw [hT2] at g3
        exact g3)
  refine ⟨r.2, ?_, h2.2.1, h2.2.2.1, h2.2.2.2⟩
  unfold f_X0_livesWeek
  simp only [li_0, li_1, li_2, li_3, li_4, li_5, li_6, li_7, li_8, li_9, li_10, li_11, li_12, li_13, li_14, li_15, li_16, li_17, li_18, li_19, li_20, li_30, li_31, li_32, li_33, li_40, li_41, li_42, li_43, li_45, li_48, li_56, li_57, li_59, li_60, li_61, li_64, li_91, li_97, li_99, li_100, li_122, li_150, li_160, li_200, li_201, li_255, li_300, li_303, li_304, li_305, li_306, li_312, li_400, li_500, li_999, li_1003, li_3099, li_99999, li_100000, li_neg]
  rw [kleft c hv, Option.bind_some, a1, Option.bind_some, lp_X0_livesWeek_21, h1, ← h2.1]
