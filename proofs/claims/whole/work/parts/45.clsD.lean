/-! PURE: the class's house, its week to the end -/
theorem WV.w {H : HS} {v i : Nat} (h : WV H v i) : WV H v (i + 1) := fun j hj hb => h j (by omega) hb
theorem lasA_wa {S : SF} {H : HS} {a : AL} : lasA (waA S H a) = lasA a := rfl
theorem lasA_le {a : AL} (h : AV a) : lasA a ≤ 500 := by
  have h1 := h.2.1
  unfold lasA
  repeat' split
  all_goals omega
theorem waB_le {a : AL} {s : Nat} (h : AV a) (hs : s ≤ 99) : waB a s ≤ 200 := by
  have h1 := h.2.1
  unfold waB
  repeat' split
  all_goals omega
theorem kwaS {m : qaM} {h i N v : Nat} {H : HS} {S : SF} (c : CH m h H) (hv : HV H) (w : WV H v i) (hh : 8 ≤ h) (t : TXc m N S) (sv : SV S) (hN : H.lw < N) (hi : i < H.n) (hb : v < 2 ^ 31) :
    ∃ m2, b_X0_washes_2 h m (nI v) (nI i) = some (.inl (m2, nI (i + 1))) ∧ CH m2 h (waS S v i H) ∧ qF [h + 2, h + 3, h + 4, 4, 5] m m2 := by
  have h8 := hv.n8
  have hi8 : i < 8 := by omega
  unfold b_X0_washes_2 waS
  rw [c.1.1]
  by_cases qb : v.testBit i = true
  · rw [if_pos qb]
    obtain ⟨_, w1, w2, w3⟩ := w i (Nat.le_refl _) qb
    obtain ⟨m2, e1, e2, e3⟩ := ctells c hh hi8
    obtain ⟨m3, g1, g2⟩ := t m2 (e2 1 (by simp)) (e2 2 (by simp)) (e2 3 (by simp)) H.lw 0 (nmA H (H.A i)) hN (by omega) e3
    have f3 : qF [4, 5] m m3 := (e2.mo (by simp)).t2 g2 (by simp)
    have c3 := c.F f3 (by simp; omega) (by simp; omega) (by simp; omega) (by simp; omega) (by simp; omega) (by simp; omega)
    have hs := sv H.lw 0 (nmA H (H.A i))
    have hw := waB_le (hv.av i) hs
    have a2 := (hv.av i).2.2.1
    have hl := lasA_le (hv.av i)
    have hr := hv.rs.2.1
    have hR : m (h + 5) 1 = nI (H.R 1) := c.2.2.1 1 (by omega)
    obtain ⟨m4, k1, k2, k3⟩ := cnotes (k := 2) (v := mnN 999 (H.A i 2 + waB (H.A i) (S H.lw 0 (nmA H (H.A i))))) c3 hi8 (by omega) (fun q => by omega)
    obtain ⟨m5, l1, l2, l3⟩ := cnotes (k := 4) (v := 0) k2 hi8 (by omega) (fun q => by omega)
    rw [setA_s, setA_2] at l2
    obtain ⟨m6, n1, n2, n3⟩ := cnotes (k := 6) (v := H.R 1) l2 hi8 (by omega) (fun _ => by
      rw [setA_s, aU_n (by omega), aU_n (by omega)]
      exact w3)
    rw [setA_s, setA_2] at n2
    have f6 : qF [h + 2, 4, 5] m m6 := (((f3.mo (by simp)).t2 k3 (by simp)).t2 l3 (by simp)).t2 n3 (by simp)
    have hwA : aU (aU (aU (H.A i) 2 (mnN 999 (H.A i 2 + waB (H.A i) (S H.lw 0 (nmA H (H.A i)))))) 4 0) 6 (H.R 1) = waA S H (H.A i) := rfl
    rw [hwA] at n2
    have hR5 : m5 (h + 5) 1 = nI (H.R 1) := l2.2.2.1 1 (by omega)
    have hR6 : m6 (h + 5) 1 = nI (H.R 1) := n2.2.2.1 1 (by omega)
    have hm : mnN 999 (H.A i 2 + waB (H.A i) (S H.lw 0 (nmA H (H.A i)))) ≤ 999 := mnN_le
    have hw2 : waA S H (H.A i) 2 ≤ 999 := hm
    have hlas := clasts n2 (by rw [setA_s]; exact waA_V (hv.av i) hr) hi8
    rw [setA_s, lasA_wa] at hlas
    have hmid : ∀ K : qaM → Int32 → Int32 → Option ((qaM × Int32) ⊕ qaM),
      Option.bind (f_X0_tellsOf h m (nI i)) (fun q2 => Option.bind (f_X5_says q2 (q2 h 4) (nI 0)) (fun q3 => Option.bind (f_X1_wearsBy (h + 1) q3.2 (nI i) q3.1) (fun q4 => Option.bind (f_X1_fact (h + 1) q3.2 (nI i) (nI 2)) (fun q5 => Option.bind (f_X1_notes (h + 1) q3.2 (nI i) (nI 2) (qa_min (nI 999) (q5 + q4))) (fun q6 => Option.bind (f_X1_notes (h + 1) q6 (nI i) (nI 4) (nI 0)) (fun q7 => Option.bind (f_X1_notes (h + 1) q7 (nI i) (nI 6) (q7 (h + 5) 1)) (fun q8 => Option.bind (f_X1_fact (h + 1) q8 (nI i) (nI 2)) (fun q9 => Option.bind (f_X1_lasts (h + 1) q8 (nI i)) (fun q10 => K q8 q9 q10)))))))))
        = K m6 (nI (waA S H (H.A i) 2)) (nI (lasA (H.A i))) := by
      intro K
      rw [e1, Option.bind_some, e2 h (by simp; omega), c.2.2.2.2, g1, Option.bind_some, cwBy c3 hv hi8 hs, Option.bind_some, cfact c3 hi8 (by omega) (by omega), Option.bind_some, pu_add, pu_min (by omega) (by omega), k1, Option.bind_some, l1, Option.bind_some, hR5, n1, Option.bind_some, cfact n2 hi8 (by omega) (by omega), Option.bind_some, hlas, Option.bind_some, setA_s]
    by_cases ql : waA S H (H.A i) 2 < lasA (H.A i)
    · rw [if_pos ql]
      by_cases q0 : H.R 1 = 0
      · rw [if_pos q0]
        have hl := hv.lenN hi w1
        obtain ⟨m7, o1, o2, o3⟩ := claysDown n2 hi8 (show H.P.length < 8 by omega) hv.i8 hv.rs.2.2.2.1
        refine ⟨m7, ?_, o2, (f6.mo (by simp)).t2 o3 (by simp)⟩
        simp only [li_0, li_1, li_2, li_3, li_4, li_5, li_6, li_7, li_8, li_9, li_10, li_11, li_12, li_13, li_14, li_15, li_16, li_17, li_18, li_19, li_20, li_30, li_31, li_32, li_33, li_40, li_41, li_42, li_43, li_45, li_48, li_56, li_57, li_59, li_60, li_61, li_64, li_91, li_97, li_99, li_100, li_122, li_150, li_160, li_200, li_201, li_255, li_300, li_303, li_304, li_305, li_306, li_312, li_400, li_500, li_999, li_1003, li_3099, li_99999, li_100000, li_neg]
        rw [pu_bit hi8 hb, if_pos qb, hmid]
        ((try simp only [li_0, li_1, li_2, li_3, li_4, li_5, li_6, li_7, li_8, li_9, li_10, li_11, li_12, li_13, li_14, li_15, li_16, li_17, li_18, li_19, li_20, li_30, li_31, li_32, li_33, li_40, li_41, li_42, li_43, li_45, li_48, li_56, li_57, li_59, li_60, li_61, li_64, li_91, li_97, li_99, li_100, li_122, li_150, li_160, li_200, li_201, li_255, li_300, li_303, li_304, li_305, li_306, li_312, li_400, li_500, li_999, li_1003, li_3099, li_99999, li_100000, li_neg]); simp (disch := omega) only [ic_le_f, ic_le_t, ic_lt_f, ic_lt_t, ic_eq_f, ic_eq_t, ic_im, ic_mi, ic_mm_t, ic_mm_f, ic_mlt, ic_mle, ic_ilem, ic_iltm, ic_mmle_t, ic_mmle_f, pu_add, pu_mul, pu_in, pu_ck, pu_let, pu_cl, pu_cpok, pu_inr, Option.bind_some, ite_true, ite_false])
        rw [hR6, q0, o1]
        ((try simp only [b_X0_washes_148, li_0, li_1, li_2, li_3, li_4, li_5, li_6, li_7, li_8, li_9, li_10, li_11, li_12, li_13, li_14, li_15, li_16, li_17, li_18, li_19, li_20, li_30, li_31, li_32, li_33, li_40, li_41, li_42, li_43, li_45, li_48, li_56, li_57, li_59, li_60, li_61, li_64, li_91, li_97, li_99, li_100, li_122, li_150, li_160, li_200, li_201, li_255, li_300, li_303, li_304, li_305, li_306, li_312, li_400, li_500, li_999, li_1003, li_3099, li_99999, li_100000, li_neg]); simp (disch := omega) only [b_X0_washes_148, ic_le_f, ic_le_t, ic_lt_f, ic_lt_t, ic_eq_f, ic_eq_t, ic_im, ic_mi, ic_mm_t, ic_mm_f, ic_mlt, ic_mle, ic_ilem, ic_iltm, ic_mmle_t, ic_mmle_f, pu_add, pu_mul, pu_in, pu_ck, pu_let, pu_cl, pu_cpok, pu_inr, Option.bind_some, ite_true, ite_false])
      · rw [if_neg q0]
        refine ⟨m6, ?_, n2, f6.mo (by simp)⟩
        simp only [li_0, li_1, li_2, li_3, li_4, li_5, li_6, li_7, li_8, li_9, li_10, li_11, li_12, li_13, li_14, li_15, li_16, li_17, li_18, li_19, li_20, li_30, li_31, li_32, li_33, li_40, li_41, li_42, li_43, li_45, li_48, li_56, li_57, li_59, li_60, li_61, li_64, li_91, li_97, li_99, li_100, li_122, li_150, li_160, li_200, li_201, li_255, li_300, li_303, li_304, li_305, li_306, li_312, li_400, li_500, li_999, li_1003, li_3099, li_99999, li_100000, li_neg]
        rw [pu_bit hi8 hb, if_pos qb, hmid]
        ((try simp only [li_0, li_1, li_2, li_3, li_4, li_5, li_6, li_7, li_8, li_9, li_10, li_11, li_12, li_13, li_14, li_15, li_16, li_17, li_18, li_19, li_20, li_30, li_31, li_32, li_33, li_40, li_41, li_42, li_43, li_45, li_48, li_56, li_57, li_59, li_60, li_61, li_64, li_91, li_97, li_99, li_100, li_122, li_150, li_160, li_200, li_201, li_255, li_300, li_303, li_304, li_305, li_306, li_312, li_400, li_500, li_999, li_1003, li_3099, li_99999, li_100000, li_neg]); simp (disch := omega) only [ic_le_f, ic_le_t, ic_lt_f, ic_lt_t, ic_eq_f, ic_eq_t, ic_im, ic_mi, ic_mm_t, ic_mm_f, ic_mlt, ic_mle, ic_ilem, ic_iltm, ic_mmle_t, ic_mmle_f, pu_add, pu_mul, pu_in, pu_ck, pu_let, pu_cl, pu_cpok, pu_inr, Option.bind_some, ite_true, ite_false])
        rw [hR6]
        ((try simp only [b_X0_washes_148, li_0, li_1, li_2, li_3, li_4, li_5, li_6, li_7, li_8, li_9, li_10, li_11, li_12, li_13, li_14, li_15, li_16, li_17, li_18, li_19, li_20, li_30, li_31, li_32, li_33, li_40, li_41, li_42, li_43, li_45, li_48, li_56, li_57, li_59, li_60, li_61, li_64, li_91, li_97, li_99, li_100, li_122, li_150, li_160, li_200, li_201, li_255, li_300, li_303, li_304, li_305, li_306, li_312, li_400, li_500, li_999, li_1003, li_3099, li_99999, li_100000, li_neg]); simp (disch := omega) only [b_X0_washes_148, ic_le_f, ic_le_t, ic_lt_f, ic_lt_t, ic_eq_f, ic_eq_t, ic_im, ic_mi, ic_mm_t, ic_mm_f, ic_mlt, ic_mle, ic_ilem, ic_iltm, ic_mmle_t, ic_mmle_f, pu_add, pu_mul, pu_in, pu_ck, pu_let, pu_cl, pu_cpok, pu_inr, Option.bind_some, ite_true, ite_false])
    · rw [if_neg ql]
      obtain ⟨m7, o1, o2, o3⟩ := cnotesM n2 hi8
      rw [setA_s, setA_2] at o2
      refine ⟨m7, ?_, o2, (f6.mo (by simp)).t2 o3 (by simp)⟩
      simp only [li_0, li_1, li_2, li_3, li_4, li_5, li_6, li_7, li_8, li_9, li_10, li_11, li_12, li_13, li_14, li_15, li_16, li_17, li_18, li_19, li_20, li_30, li_31, li_32, li_33, li_40, li_41, li_42, li_43, li_45, li_48, li_56, li_57, li_59, li_60, li_61, li_64, li_91, li_97, li_99, li_100, li_122, li_150, li_160, li_200, li_201, li_255, li_300, li_303, li_304, li_305, li_306, li_312, li_400, li_500, li_999, li_1003, li_3099, li_99999, li_100000, li_neg]
      rw [pu_bit hi8 hb, if_pos qb, hmid]
      ((try simp only [li_0, li_1, li_2, li_3, li_4, li_5, li_6, li_7, li_8, li_9, li_10, li_11, li_12, li_13, li_14, li_15, li_16, li_17, li_18, li_19, li_20, li_30, li_31, li_32, li_33, li_40, li_41, li_42, li_43, li_45, li_48, li_56, li_57, li_59, li_60, li_61, li_64, li_91, li_97, li_99, li_100, li_122, li_150, li_160, li_200, li_201, li_255, li_300, li_303, li_304, li_305, li_306, li_312, li_400, li_500, li_999, li_1003, li_3099, li_99999, li_100000, li_neg]); simp (disch := omega) only [ic_le_f, ic_le_t, ic_lt_f, ic_lt_t, ic_eq_f, ic_eq_t, ic_im, ic_mi, ic_mm_t, ic_mm_f, ic_mlt, ic_mle, ic_ilem, ic_iltm, ic_mmle_t, ic_mmle_f, pu_add, pu_mul, pu_in, pu_ck, pu_let, pu_cl, pu_cpok, pu_inr, Option.bind_some, ite_true, ite_false])
      rw [o1]
      ((try simp only [b_X0_washes_148, li_0, li_1, li_2, li_3, li_4, li_5, li_6, li_7, li_8, li_9, li_10, li_11, li_12, li_13, li_14, li_15, li_16, li_17, li_18, li_19, li_20, li_30, li_31, li_32, li_33, li_40, li_41, li_42, li_43, li_45, li_48, li_56, li_57, li_59, li_60, li_61, li_64, li_91, li_97, li_99, li_100, li_122, li_150, li_160, li_200, li_201, li_255, li_300, li_303, li_304, li_305, li_306, li_312, li_400, li_500, li_999, li_1003, li_3099, li_99999, li_100000, li_neg]); simp (disch := omega) only [b_X0_washes_148, ic_le_f, ic_le_t, ic_lt_f, ic_lt_t, ic_eq_f, ic_eq_t, ic_im, ic_mi, ic_mm_t, ic_mm_f, ic_mlt, ic_mle, ic_ilem, ic_iltm, ic_mmle_t, ic_mmle_f, pu_add, pu_mul, pu_in, pu_ck, pu_let, pu_cl, pu_cpok, pu_inr, Option.bind_some, ite_true, ite_false])
  · rw [if_neg qb]
    refine ⟨m, ?_, c, qF.rf _ _⟩
    simp only [li_0, li_1, li_2, li_3, li_4, li_5, li_6, li_7, li_8, li_9, li_10, li_11, li_12, li_13, li_14, li_15, li_16, li_17, li_18, li_19, li_20, li_30, li_31, li_32, li_33, li_40, li_41, li_42, li_43, li_45, li_48, li_56, li_57, li_59, li_60, li_61, li_64, li_91, li_97, li_99, li_100, li_122, li_150, li_160, li_200, li_201, li_255, li_300, li_303, li_304, li_305, li_306, li_312, li_400, li_500, li_999, li_1003, li_3099, li_99999, li_100000, li_neg]
    rw [pu_bit hi8 hb, if_neg qb]
    ((try simp only [b_X0_washes_148, li_0, li_1, li_2, li_3, li_4, li_5, li_6, li_7, li_8, li_9, li_10, li_11, li_12, li_13, li_14, li_15, li_16, li_17, li_18, li_19, li_20, li_30, li_31, li_32, li_33, li_40, li_41, li_42, li_43, li_45, li_48, li_56, li_57, li_59, li_60, li_61, li_64, li_91, li_97, li_99, li_100, li_122, li_150, li_160, li_200, li_201, li_255, li_300, li_303, li_304, li_305, li_306, li_312, li_400, li_500, li_999, li_1003, li_3099, li_99999, li_100000, li_neg]); simp (disch := omega) only [b_X0_washes_148, ic_le_f, ic_le_t, ic_lt_f, ic_lt_t, ic_eq_f, ic_eq_t, ic_im, ic_mi, ic_mm_t, ic_mm_f, ic_mlt, ic_mle, ic_ilem, ic_iltm, ic_mmle_t, ic_mmle_f, pu_add, pu_mul, pu_in, pu_ck, pu_let, pu_cl, pu_cpok, pu_inr, Option.bind_some, ite_true, ite_false])
theorem kwas {m : qaM} {h N v : Nat} {H : HS} {S : SF} (c : CH m h H) (hv : HV H) (w : WV H v 0) (hh : 8 ≤ h) (t : TXc m N S) (sv : SV S) (hN : H.lw < N) (hb : v < 2 ^ 31) :
    ∃ m2, f_X0_washes h m (nI v) = some m2 ∧ CH m2 h (was S v H) ∧ qF [h + 2, h + 3, h + 4, 4, 5] m m2 := by
  have h8 := hv.n8
  obtain ⟨m2, e1, e2, _, _, _, _, e5⟩ := lp_for (f := fun s : qaM × Int32 => b_X0_washes_2 h s.1 (nI v) s.2) (waS S v) (fun j x X => CH x h X ∧ HV X ∧ WV X v j ∧ X.n = H.n ∧ X.lw = H.lw ∧ qF [h + 2, h + 3, h + 4, 4, 5] m x) H.n (by omega) ⟨c, hv, w, rfl, rfl, qF.rf _ _⟩
    (by
      rintro j x X hj ⟨k1, k2, k3, k4, k5, k6⟩
      obtain ⟨x2, g1, g2, g3⟩ := kwaS k1 k2 k3 hh (t.F k6 (by simp <;> omega) (by simp <;> omega) (by simp <;> omega)) sv (by rw [k5]; exact hN) (by rw [k4]; exact hj) hb
      have g4 := waS_V (S := S) k2 k3 (by rw [k4]; exact hj)
      refine ⟨x2, g1, g2, g4.1, g4.2.1, g4.2.2.trans k4, ?_, k6.t2 g3 (fun _ z => z)⟩
      rw [← k5]
      unfold waS
      repeat' split
      all_goals rfl)
    (by
      rintro x X ⟨k1, k2, k3, k4, k5, k6⟩
      show b_X0_washes_2 h x (nI v) (nI H.n) = _
      unfold b_X0_washes_2
      rw [k1.1.1, k4]
      ((try simp only [li_0, li_1, li_2, li_3, li_4, li_5, li_6, li_7, li_8, li_9, li_10, li_11, li_12, li_13, li_14, li_15, li_16, li_17, li_18, li_19, li_20, li_30, li_31, li_32, li_33, li_40, li_41, li_42, li_43, li_45, li_48, li_56, li_57, li_59, li_60, li_61, li_64, li_91, li_97, li_99, li_100, li_122, li_150, li_160, li_200, li_201, li_255, li_300, li_303, li_304, li_305, li_306, li_312, li_400, li_500, li_999, li_1003, li_3099, li_99999, li_100000, li_neg]); simp (disch := omega) only [ic_le_f, ic_le_t, ic_lt_f, ic_lt_t, ic_eq_f, ic_eq_t, ic_im, ic_mi, ic_mm_t, ic_mm_f, ic_mlt, ic_mle, ic_ilem, ic_iltm, ic_mmle_t, ic_mmle_f, pu_add, pu_mul, pu_in, pu_ck, pu_let, pu_cl, pu_cpok, pu_inr, Option.bind_some, ite_true, ite_false]))
  exact ⟨m2, e1, e2, e5⟩
/-- a number told from 1 on; 0: none -/
def plI (p : Nat) : Int32 := if p = 0 then nM 1 else nI (p - 1)
theorem plI_0 : plI 0 = nM 1 := rfl
theorem plI_s (p : Nat) : plI (p + 1) = nI p := rfl
theorem plI_m (p : Nat) : nI p - nI 1 = plI p := by
  cases p with
  | zero => decide
  | succ p => rw [plI_s, pu_sub (by omega)]; rfl
theorem plI_p (p : Nat) : nI p + nM 1 = plI p := by
  cases p with
  | zero => decide
  | succ p =>
    rw [plI_s]
    exact pk_m1 p
theorem kdrS {m : qaM} {h p : Nat} {H : HS} (c : CH m h H) (hv : HV H) (hp : p < H.P.length) : ∃ m2, b_X0_dropsYellow_10 h m (nI p) = some (.inl (m2, plI p)) ∧ CH m2 h (drS p H) ∧ qF [h + 2, h + 3, h + 4] m m2 := by
  have h8 := c.2.1.2.1
  have hi := hv.i8 _ (getD_mem hp)
  have a3 := (hv.av (H.P.getD p 0)).2.2.2.1
  unfold b_X0_dropsYellow_10 drS
  by_cases q : H.A (H.P.getD p 0) 3 = 99
  · rw [if_pos q]
    obtain ⟨m2, e1, e2, e3⟩ := cremove c hp
    obtain ⟨m3, g1, g2, g3⟩ := cnotesM e2 hi
    refine ⟨m3, ?_, g2, (e3.mo (by simp)).t2 g3 (by simp)⟩
    ((try simp only [li_0, li_1, li_2, li_3, li_4, li_5, li_6, li_7, li_8, li_9, li_10, li_11, li_12, li_13, li_14, li_15, li_16, li_17, li_18, li_19, li_20, li_30, li_31, li_32, li_33, li_40, li_41, li_42, li_43, li_45, li_48, li_56, li_57, li_59, li_60, li_61, li_64, li_91, li_97, li_99, li_100, li_122, li_150, li_160, li_200, li_201, li_255, li_300, li_303, li_304, li_305, li_306, li_312, li_400, li_500, li_999, li_1003, li_3099, li_99999, li_100000, li_neg]); simp (disch := omega) only [ic_le_f, ic_le_t, ic_lt_f, ic_lt_t, ic_eq_f, ic_eq_t, ic_im, ic_mi, ic_mm_t, ic_mm_f, ic_mlt, ic_mle, ic_ilem, ic_iltm, ic_mmle_t, ic_mmle_f, pu_add, pu_mul, pu_in, pu_ck, pu_let, pu_cl, pu_cpok, pu_inr, Option.bind_some, ite_true, ite_false])
    rw [at_ok c.2.1 hp, Option.bind_some, cfact c hi (by omega) (by omega), q]
    ((try simp only [li_0, li_1, li_2, li_3, li_4, li_5, li_6, li_7, li_8, li_9, li_10, li_11, li_12, li_13, li_14, li_15, li_16, li_17, li_18, li_19, li_20, li_30, li_31, li_32, li_33, li_40, li_41, li_42, li_43, li_45, li_48, li_56, li_57, li_59, li_60, li_61, li_64, li_91, li_97, li_99, li_100, li_122, li_150, li_160, li_200, li_201, li_255, li_300, li_303, li_304, li_305, li_306, li_312, li_400, li_500, li_999, li_1003, li_3099, li_99999, li_100000, li_neg]); simp (disch := omega) only [ic_le_f, ic_le_t, ic_lt_f, ic_lt_t, ic_eq_f, ic_eq_t, ic_im, ic_mi, ic_mm_t, ic_mm_f, ic_mlt, ic_mle, ic_ilem, ic_iltm, ic_mmle_t, ic_mmle_f, pu_add, pu_mul, pu_in, pu_ck, pu_let, pu_cl, pu_cpok, pu_inr, Option.bind_some, ite_true, ite_false])
    rw [e1, Option.bind_some, g1]
    ((try simp only [b_X0_dropsYellow_53, li_0, li_1, li_2, li_3, li_4, li_5, li_6, li_7, li_8, li_9, li_10, li_11, li_12, li_13, li_14, li_15, li_16, li_17, li_18, li_19, li_20, li_30, li_31, li_32, li_33, li_40, li_41, li_42, li_43, li_45, li_48, li_56, li_57, li_59, li_60, li_61, li_64, li_91, li_97, li_99, li_100, li_122, li_150, li_160, li_200, li_201, li_255, li_300, li_303, li_304, li_305, li_306, li_312, li_400, li_500, li_999, li_1003, li_3099, li_99999, li_100000, li_neg]); simp (disch := omega) only [b_X0_dropsYellow_53, ic_le_f, ic_le_t, ic_lt_f, ic_lt_t, ic_eq_f, ic_eq_t, ic_im, ic_mi, ic_mm_t, ic_mm_f, ic_mlt, ic_mle, ic_ilem, ic_iltm, ic_mmle_t, ic_mmle_f, pu_add, pu_mul, pu_in, pu_ck, pu_let, pu_cl, pu_cpok, pu_inr, Option.bind_some, ite_true, ite_false])
    rw [plI_p]
  · rw [if_neg q]
    refine ⟨m, ?_, c, qF.rf _ _⟩
    ((try simp only [li_0, li_1, li_2, li_3, li_4, li_5, li_6, li_7, li_8, li_9, li_10, li_11, li_12, li_13, li_14, li_15, li_16, li_17, li_18, li_19, li_20, li_30, li_31, li_32, li_33, li_40, li_41, li_42, li_43, li_45, li_48, li_56, li_57, li_59, li_60, li_61, li_64, li_91, li_97, li_99, li_100, li_122, li_150, li_160, li_200, li_201, li_255, li_300, li_303, li_304, li_305, li_306, li_312, li_400, li_500, li_999, li_1003, li_3099, li_99999, li_100000, li_neg]); simp (disch := omega) only [ic_le_f, ic_le_t, ic_lt_f, ic_lt_t, ic_eq_f, ic_eq_t, ic_im, ic_mi, ic_mm_t, ic_mm_f, ic_mlt, ic_mle, ic_ilem, ic_iltm, ic_mmle_t, ic_mmle_f, pu_add, pu_mul, pu_in, pu_ck, pu_let, pu_cl, pu_cpok, pu_inr, Option.bind_some, ite_true, ite_false])
    rw [at_ok c.2.1 hp, Option.bind_some, cfact c hi (by omega) (by omega)]
    ((try simp only [b_X0_dropsYellow_53, li_0, li_1, li_2, li_3, li_4, li_5, li_6, li_7, li_8, li_9, li_10, li_11, li_12, li_13, li_14, li_15, li_16, li_17, li_18, li_19, li_20, li_30, li_31, li_32, li_33, li_40, li_41, li_42, li_43, li_45, li_48, li_56, li_57, li_59, li_60, li_61, li_64, li_91, li_97, li_99, li_100, li_122, li_150, li_160, li_200, li_201, li_255, li_300, li_303, li_304, li_305, li_306, li_312, li_400, li_500, li_999, li_1003, li_3099, li_99999, li_100000, li_neg]); simp (disch := omega) only [b_X0_dropsYellow_53, ic_le_f, ic_le_t, ic_lt_f, ic_lt_t, ic_eq_f, ic_eq_t, ic_im, ic_mi, ic_mm_t, ic_mm_f, ic_mlt, ic_mle, ic_ilem, ic_iltm, ic_mmle_t, ic_mmle_f, pu_add, pu_mul, pu_in, pu_ck, pu_let, pu_cl, pu_cpok, pu_inr, Option.bind_some, ite_true, ite_false])
    rw [plI_p]
theorem drS_lw {p : Nat} {H : HS} : (drS p H).lw = H.lw := by
  unfold drS
  split <;> rfl
theorem kdrp {m : qaM} {h : Nat} {H : HS} (c : CH m h H) (hv : HV H) : ∃ m2, f_X0_dropsYellow h m = some m2 ∧ CH m2 h (drp H) ∧ qF [h + 2, h + 3, h + 4] m m2 := by
  have h8 := c.2.1.2.1
  obtain ⟨r, h1, h2⟩ := lp_at (f := fun s : qaM × Int32 => b_X0_dropsYellow_10 h s.1 s.2) (fun j s => j ≤ H.P.length ∧ ∃ X, s.2 = plI (H.P.length - j) ∧ CH s.1 h X ∧ HV X ∧ H.P.length - j ≤ X.P.length ∧ drN (H.P.length - j) X = drp H ∧ qF [h + 2, h + 3, h + 4] m s.1)
    (fun r => CH r h (drp H) ∧ qF [h + 2, h + 3, h + 4] m r) H.P.length (s := (m, plI H.P.length)) ⟨Nat.zero_le _, H, rfl, c, hv, Nat.le_refl _, rfl, qF.rf _ _⟩ (by omega) (by
    rintro j ⟨x, k⟩ hj ⟨_, X, hk, k1, k2, k3, k4, k5⟩
    have hk2 : k = plI (H.P.length - j) := hk
    subst hk2
    rcases Nat.lt_or_ge j H.P.length with q | q
    · obtain ⟨p, hp⟩ : ∃ p, H.P.length - j = p + 1 := ⟨H.P.length - j - 1, by omega⟩
      have hp2 : H.P.length - (j + 1) = p := by omega
      rw [hp] at k3 k4
      obtain ⟨x2, g1, g2, g3⟩ := kdrS k1 k2 (p := p) (by omega)
      have g4 := drS_V k2 (p := p) (by omega)
      refine Or.inl ⟨(x2, plI p), ?_, q, q, drS p X, by rw [hp2], g2, g4.1, by rw [hp2]; exact g4.2.2, ?_, k5.t2 g3 (fun _ z => z)⟩
      · show b_X0_dropsYellow_10 h x (plI (H.P.length - j)) = _
        rw [hp, plI_s]
        exact g1
      · rw [hp2]
        exact k4
    · have hz : H.P.length - j = 0 := by omega
      rw [hz] at k4
      refine Or.inr ⟨x, ?_, ?_, k5⟩
      · show b_X0_dropsYellow_10 h x (plI (H.P.length - j)) = _
        unfold b_X0_dropsYellow_10
        rw [hz, plI_0]
        ((try simp only [li_0, li_1, li_2, li_3, li_4, li_5, li_6, li_7, li_8, li_9, li_10, li_11, li_12, li_13, li_14, li_15, li_16, li_17, li_18, li_19, li_20, li_30, li_31, li_32, li_33, li_40, li_41, li_42, li_43, li_45, li_48, li_56, li_57, li_59, li_60, li_61, li_64, li_91, li_97, li_99, li_100, li_122, li_150, li_160, li_200, li_201, li_255, li_300, li_303, li_304, li_305, li_306, li_312, li_400, li_500, li_999, li_1003, li_3099, li_99999, li_100000, li_neg]); simp (disch := omega) only [ic_le_f, ic_le_t, ic_lt_f, ic_lt_t, ic_eq_f, ic_eq_t, ic_im, ic_mi, ic_mm_t, ic_mm_f, ic_mlt, ic_mle, ic_ilem, ic_iltm, ic_mmle_t, ic_mmle_f, pu_add, pu_mul, pu_in, pu_ck, pu_let, pu_cl, pu_cpok, pu_inr, Option.bind_some, ite_true, ite_false])
      · rw [← k4]
        exact k1)
  refine ⟨r, ?_, h2⟩
  unfold f_X0_dropsYellow
  rw [c.2.1.1]
  simp only [li_0, li_1, li_2, li_3, li_4, li_5, li_6, li_7, li_8, li_9, li_10, li_11, li_12, li_13, li_14, li_15, li_16, li_17, li_18, li_19, li_20, li_30, li_31, li_32, li_33, li_40, li_41, li_42, li_43, li_45, li_48, li_56, li_57, li_59, li_60, li_61, li_64, li_91, li_97, li_99, li_100, li_122, li_150, li_160, li_200, li_201, li_255, li_300, li_303, li_304, li_305, li_306, li_312, li_400, li_500, li_999, li_1003, li_3099, li_99999, li_100000, li_neg]
  rw [plI_m, pu_let]
  exact h1
