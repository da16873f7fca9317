/-! PURE: the reference's house, what is taken, what comes back -/
theorem r7row {m : qaM} {i k : Nat} {H : HS} (c : MH m H) (hi : i < H.n) (hk : k < 6) (h4 : k = 4 → H.A i 7 = 0) : m 39 (6 * i + k) = nI (H.A i (k + 2)) := c.1.2.2 i k hi hk h4
theorem r7set {m : qaM} {i k v : Nat} {H : HS} (c : MH m H) (hk : k < 6) (h5 : k = 5 → v = 1) : MH (qa_st m 39 (6 * i + k) (nI v)) (H.setA i (aU (H.A i) (k + 2) v)) := by
  refine ⟨⟨fun a ha => ?_, fun a ha => ?_, fun a b ha hb h4 => ?_⟩, ?_, ?_⟩
  · have ha2 : a < H.n := ha
    rw [st_n (by omega), c.1.1 a ha2]
    by_cases q : a = i
    · rw [q, setA_s, aU_n (by omega)]
    · rw [setA_n q]
  · have ha2 : a < H.n := ha
    rw [st_n (by omega), c.1.2.1 a ha2]
    by_cases q : a = i
    · rw [q, setA_s, aU_n (by omega)]
    · rw [setA_n q]
  · have ha2 : a < H.n := ha
    rw [st_s]
    by_cases q : a = i
    · subst q
      rw [setA_s] at h4 ⊢
      by_cases qb : b = k
      · subst qb
        rw [up_s, aU_s]
      · rw [up_n (by omega), aU_n (by omega)]
        refine c.1.2.2 a b ha2 hb (fun z => ?_)
        have h47 := h4 z
        by_cases q5 : k = 5
        · subst q5
          rw [aU_s, h5 rfl] at h47
          omega
        · rw [aU_n (by omega)] at h47
          exact h47
    · rw [up_n (by omega), setA_n q]
      rw [setA_n q] at h4
      exact c.1.2.2 a b ha2 hb h4
  · have h2 := c.2.1
    unfold RP at h2 ⊢
    rw [st_n (by omega), st_n (by omega)]
    exact h2
  · have h2 := c.2.2
    rw [st_n (by omega), st_n (by omega)]
    exact h2
theorem o36.rf (k : Nat) (m : qaM) : o36 k m m := fun _ _ => rfl
theorem o36.tr {k : Nat} {m m1 m2 : qaM} (h : o36 k m m1) (g : o36 k m1 m2) : o36 k m m2 := fun a ha => (g a ha).trans (h a ha)
theorem o36.q {k : Nat} {l : List Nat} {m m1 : qaM} (h : qF l m m1) (hl : 36 ∉ l) : o36 k m m1 := fun a _ => by rw [h 36 hl]
theorem r7takesFrom {m : qaM} {k : Nat} {H : HS} (c : MH m H) (hk : k < H.P.length) : ∃ m2, f_X7_takesFrom m (nI k) = some (nI (H.P.getD k 0), m2) ∧ MH m2 (H.setP (rmA H.P k)) ∧ qF [36, 40] m m2 ∧ o36 5 m m2 := by
  obtain ⟨P, hPe⟩ : ∃ P, P = H.P := ⟨_, rfl⟩
  rw [← hPe] at hk ⊢
  have hP : RP m P := by rw [hPe]; exact c.2.1
  have h8 := hP.2.1
  obtain ⟨r, h1, h2⟩ := lp_at (f := fun s : qaM × Int32 => b_X7_takesFrom_19 s.1 (nI (P.getD k 0)) s.2) (fun j s => j ≤ P.length - 1 - k ∧ s.2 = nI (k + j) ∧ qF [40] (qa_st m 36 5 (nI (P.length - 1))) s.1 ∧ (∀ a : Nat, a < P.length → s.1 40 a = if k ≤ a ∧ a < k + j then m 40 (a + 1) else m 40 a))
    (fun r => r.1 = nI (P.getD k 0) ∧ RP r.2 (rmA P k) ∧ qF [36, 40] m r.2 ∧ o36 5 m r.2) (P.length - 1 - k) (s := (qa_st m 36 5 (nI (P.length - 1)), nI k)) ⟨Nat.zero_le _, rfl, qF.rf _ _, fun a ha => by rw [if_neg (show ¬ (k ≤ a ∧ a < k + 0) by omega)]; show qa_st m 36 5 (nI (P.length - 1)) 40 a = m 40 a; rw [st_n (by omega)]⟩ (by omega) (by
    rintro j ⟨x, d⟩ hj ⟨_, hd, hf, ha⟩
    have hd2 : d = nI (k + j) := hd
    replace hf : qF [40] (qa_st m 36 5 (nI (P.length - 1))) x := hf
    replace ha : ∀ a : Nat, a < P.length → x 40 a = if k ≤ a ∧ a < k + j then m 40 (a + 1) else m 40 a := ha
    subst hd2
    have h36 : x 36 = upd (m 36) 5 (nI (P.length - 1)) := by
      rw [hf 36 (by decide), st_s]
    rcases Nat.lt_or_ge j (P.length - 1 - k) with q | q
    · refine Or.inl ⟨(qa_st x 40 (k + j) (x 40 (k + j + 1)), nI (k + (j + 1))), ?_, q, q, rfl, hf.t2 (qF.st _ _ _ _) (by simp), fun a hal => ?_⟩
      · show b_X7_takesFrom_19 x (nI (P.getD k 0)) (nI (k + j)) = _
        unfold b_X7_takesFrom_19
        rw [h36, up_s]
        ((try simp only [li_0, li_1, li_2, li_3, li_4, li_5, li_6, li_7, li_8, li_9, li_10, li_11, li_12, li_13, li_14, li_15, li_16, li_17, li_18, li_19, li_20, li_30, li_31, li_32, li_33, li_40, li_41, li_42, li_43, li_45, li_48, li_56, li_57, li_59, li_60, li_61, li_64, li_91, li_97, li_99, li_100, li_122, li_150, li_160, li_200, li_201, li_255, li_300, li_303, li_304, li_305, li_306, li_312, li_400, li_500, li_999, li_1003, li_3099, li_99999, li_100000, li_neg]); simp (disch := omega) only [ic_le_f, ic_le_t, ic_lt_f, ic_lt_t, ic_eq_f, ic_eq_t, ic_im, ic_mi, ic_mm_t, ic_mm_f, ic_mlt, ic_mle, ic_ilem, ic_iltm, ic_mmle_t, ic_mmle_f, pu_add, pu_mul, pu_in, pu_ck, pu_let, pu_cl, pu_cpok, pu_inr, Option.bind_some, ite_true, ite_false])
        rfl
      · show qa_st x 40 (k + j) (x 40 (k + j + 1)) 40 a = _
        rw [st_s]
        by_cases qa : a = k + j
        · rw [qa, up_s, ha _ (by omega), if_neg (by omega), if_pos (by omega)]
        · rw [up_n qa, ha a hal]
          by_cases q2 : k ≤ a ∧ a < k + j
          · rw [if_pos q2, if_pos (by omega)]
          · rw [if_neg q2, if_neg (by omega)]
    · refine Or.inr ⟨(nI (P.getD k 0), x), ?_, rfl, ⟨?_, ?_, fun a hal => ?_⟩, ?_, fun a hal => ?_⟩
      · show b_X7_takesFrom_19 x (nI (P.getD k 0)) (nI (k + j)) = _
        unfold b_X7_takesFrom_19
        rw [h36, up_s]
        ((try simp only [li_0, li_1, li_2, li_3, li_4, li_5, li_6, li_7, li_8, li_9, li_10, li_11, li_12, li_13, li_14, li_15, li_16, li_17, li_18, li_19, li_20, li_30, li_31, li_32, li_33, li_40, li_41, li_42, li_43, li_45, li_48, li_56, li_57, li_59, li_60, li_61, li_64, li_91, li_97, li_99, li_100, li_122, li_150, li_160, li_200, li_201, li_255, li_300, li_303, li_304, li_305, li_306, li_312, li_400, li_500, li_999, li_1003, li_3099, li_99999, li_100000, li_neg]); simp (disch := omega) only [ic_le_f, ic_le_t, ic_lt_f, ic_lt_t, ic_eq_f, ic_eq_t, ic_im, ic_mi, ic_mm_t, ic_mm_f, ic_mlt, ic_mle, ic_ilem, ic_iltm, ic_mmle_t, ic_mmle_f, pu_add, pu_mul, pu_in, pu_ck, pu_let, pu_cl, pu_cpok, pu_inr, Option.bind_some, ite_true, ite_false])
      · show x 36 5 = _
        rw [h36, up_s, rmA_len hk]
      · rw [rmA_len hk]
        omega
      · rw [rmA_len hk] at hal
        show x 40 a = _
        rw [ha a (by omega)]
        rcases Nat.lt_or_ge a k with z | z
        · rw [if_neg (by omega), rmA_lt hk z]
          exact hP.2.2 a (by omega)
        · rw [if_pos (by omega), rmA_ge hk z]
          exact hP.2.2 (a + 1) (by omega)
      · exact ((qF.st m 36 5 (nI (P.length - 1))).mo (by simp)).t2 hf (by simp)
      · show x 36 a = m 36 a
        rw [h36, up_n hal])
  refine ⟨r.2, ?_, c.P2 h2.2.2.1 h2.2.1 (h2.2.2.2 0 (by decide)) (h2.2.2.2 7 (by decide)) (h2.2.2.2 13 (by decide)), h2.2.2⟩
  unfold f_X7_takesFrom
  simp only [li_0, li_1, li_2, li_3, li_4, li_5, li_6, li_7, li_8, li_9, li_10, li_11, li_12, li_13, li_14, li_15, li_16, li_17, li_18, li_19, li_20, li_30, li_31, li_32, li_33, li_40, li_41, li_42, li_43, li_45, li_48, li_56, li_57, li_59, li_60, li_61, li_64, li_91, li_97, li_99, li_100, li_122, li_150, li_160, li_200, li_201, li_255, li_300, li_303, li_304, li_305, li_306, li_312, li_400, li_500, li_999, li_1003, li_3099, li_99999, li_100000, li_neg]
  rw [pu_in (by omega) (by omega), pu_ck, pu_cl (by omega), hP.2.2 k hk, pu_let, hP.1, pu_sub (by omega), pu_let, lp_X7_takesFrom_19, h1, ← h2.1]
theorem r7placeL {m : qaM} {how : Nat} {H : HS} (c : MH m H) (g : Nat → Nat → Bool) (h0 : 0 < H.P.length) (hh : 2 ≤ how) (hh3 : how ≤ 3)
    (hb : ∀ b j : Nat, b < H.P.length → j < H.P.length → b_X7_placeBy_18 m (nI how) (nI b) (nI j) = some (.inl (nI (if g (H.P.getD j 0) (H.P.getD b 0) = true then j else b), nI (j + 1)))) :
    lp_X7_placeBy_18 m (nI how) (nI 0) (nI 1) = some (nI (scK g H.P H.P.length)) := by
  have h8 := c.2.1.2.1
  obtain ⟨r, h1, h2⟩ := lp_at (f := fun s : Int32 × Int32 => b_X7_placeBy_18 m (nI how) s.1 s.2) (fun j s => s = (nI (scK g H.P (j + 1)), nI (j + 1))) (fun r => r = nI (scK g H.P H.P.length)) (H.P.length - 1) (s := (nI 0, nI 1)) (by
      show _ = (nI (scK g H.P 1), nI 1)
      rfl) (by omega) (by
    rintro j s hj rfl
    rcases Nat.lt_or_ge j (H.P.length - 1) with q | q
    · have hk := scK_lt (g := g) (P := H.P) (j + 1) (by omega)
      refine Or.inl ⟨_, hb _ _ (by omega) (by omega), q, ?_⟩
      show _ = (nI (scK g H.P (j + 1 + 1)), nI (j + 1 + 1))
      have hs : scK g H.P (j + 1 + 1) = if g (H.P.getD (j + 1) 0) (H.P.getD (scK g H.P (j + 1)) 0) = true then j + 1 else scK g H.P (j + 1) := by
        rw [scK, if_neg (by omega)]
      rw [hs]
    · have hjl : j + 1 = H.P.length := by omega
      refine Or.inr ⟨_, ?_, rfl⟩
      show b_X7_placeBy_18 m (nI how) (nI (scK g H.P (j + 1))) (nI (j + 1)) = _
      unfold b_X7_placeBy_18
      rw [c.2.1.1, hjl]
      ((try simp only [li_0, li_1, li_2, li_3, li_4, li_5, li_6, li_7, li_8, li_9, li_10, li_11, li_12, li_13, li_14, li_15, li_16, li_17, li_18, li_19, li_20, li_30, li_31, li_32, li_33, li_40, li_41, li_42, li_43, li_45, li_48, li_56, li_57, li_59, li_60, li_61, li_64, li_91, li_97, li_99, li_100, li_122, li_150, li_160, li_200, li_201, li_255, li_300, li_303, li_304, li_305, li_306, li_312, li_400, li_500, li_999, li_1003, li_3099, li_99999, li_100000, li_neg]); simp (disch := omega) only [ic_le_f, ic_le_t, ic_lt_f, ic_lt_t, ic_eq_f, ic_eq_t, ic_im, ic_mi, ic_mm_t, ic_mm_f, ic_mlt, ic_mle, ic_ilem, ic_iltm, ic_mmle_t, ic_mmle_f, pu_add, pu_mul, pu_in, pu_ck, pu_let, pu_cl, pu_cpok, pu_inr, Option.bind_some, ite_true, ite_false]))
  rw [lp_X7_placeBy_18, h1, h2]
theorem r7placeBy {m : qaM} {how : Nat} {H : HS} (c : MH m H) (v : HV H) (hh : how ≤ 3) (h0 : 0 < H.P.length) : f_X7_placeBy m (nI how) = some (nI (tkK how H)) := by
  have h8 := c.2.1.2.1
  have hend : ∀ b : Nat, how ≤ 1 → lp_X7_placeBy_18 m (nI how) (nI b) (nI 1) = some (nI b) := by
    intro b hb
    show qa_lp (fun s : Int32 × Int32 => b_X7_placeBy_18 m (nI how) s.1 s.2) 2000 (nI b, nI 1) = _
    rw [qa_lp]
    have : b_X7_placeBy_18 m (nI how) (nI b) (nI 1) = some (.inr (nI b)) := by
      unfold b_X7_placeBy_18
      rw [c.2.1.1]
      rcases Nat.lt_or_ge 1 H.P.length with q | q
      · ((try simp only [li_0, li_1, li_2, li_3, li_4, li_5, li_6, li_7, li_8, li_9, li_10, li_11, li_12, li_13, li_14, li_15, li_16, li_17, li_18, li_19, li_20, li_30, li_31, li_32, li_33, li_40, li_41, li_42, li_43, li_45, li_48, li_56, li_57, li_59, li_60, li_61, li_64, li_91, li_97, li_99, li_100, li_122, li_150, li_160, li_200, li_201, li_255, li_300, li_303, li_304, li_305, li_306, li_312, li_400, li_500, li_999, li_1003, li_3099, li_99999, li_100000, li_neg]); simp (disch := omega) only [ic_le_f, ic_le_t, ic_lt_f, ic_lt_t, ic_eq_f, ic_eq_t, ic_im, ic_mi, ic_mm_t, ic_mm_f, ic_mlt, ic_mle, ic_ilem, ic_iltm, ic_mmle_t, ic_mmle_f, pu_add, pu_mul, pu_in, pu_ck, pu_let, pu_cl, pu_cpok, pu_inr, Option.bind_some, ite_true, ite_false])
      · ((try simp only [li_0, li_1, li_2, li_3, li_4, li_5, li_6, li_7, li_8, li_9, li_10, li_11, li_12, li_13, li_14, li_15, li_16, li_17, li_18, li_19, li_20, li_30, li_31, li_32, li_33, li_40, li_41, li_42, li_43, li_45, li_48, li_56, li_57, li_59, li_60, li_61, li_64, li_91, li_97, li_99, li_100, li_122, li_150, li_160, li_200, li_201, li_255, li_300, li_303, li_304, li_305, li_306, li_312, li_400, li_500, li_999, li_1003, li_3099, li_99999, li_100000, li_neg]); simp (disch := omega) only [ic_le_f, ic_le_t, ic_lt_f, ic_lt_t, ic_eq_f, ic_eq_t, ic_im, ic_mi, ic_mm_t, ic_mm_f, ic_mlt, ic_mle, ic_ilem, ic_iltm, ic_mmle_t, ic_mmle_f, pu_add, pu_mul, pu_in, pu_ck, pu_let, pu_cl, pu_cpok, pu_inr, Option.bind_some, ite_true, ite_false])
    simp only [this]
  unfold f_X7_placeBy b_X7_placeBy_15
  by_cases q0 : how = 0
  · subst q0
    have e : tkK 0 H = 0 := rfl
    rw [e]
    ((try simp only [li_0, li_1, li_2, li_3, li_4, li_5, li_6, li_7, li_8, li_9, li_10, li_11, li_12, li_13, li_14, li_15, li_16, li_17, li_18, li_19, li_20, li_30, li_31, li_32, li_33, li_40, li_41, li_42, li_43, li_45, li_48, li_56, li_57, li_59, li_60, li_61, li_64, li_91, li_97, li_99, li_100, li_122, li_150, li_160, li_200, li_201, li_255, li_300, li_303, li_304, li_305, li_306, li_312, li_400, li_500, li_999, li_1003, li_3099, li_99999, li_100000, li_neg]); simp (disch := omega) only [ic_le_f, ic_le_t, ic_lt_f, ic_lt_t, ic_eq_f, ic_eq_t, ic_im, ic_mi, ic_mm_t, ic_mm_f, ic_mlt, ic_mle, ic_ilem, ic_iltm, ic_mmle_t, ic_mmle_f, pu_add, pu_mul, pu_in, pu_ck, pu_let, pu_cl, pu_cpok, pu_inr, Option.bind_some, ite_true, ite_false])
    exact hend 0 (by omega)
  by_cases q1 : how = 1
  · subst q1
    have e : tkK 1 H = H.P.length - 1 := rfl
    rw [e, c.2.1.1]
    ((try simp only [li_0, li_1, li_2, li_3, li_4, li_5, li_6, li_7, li_8, li_9, li_10, li_11, li_12, li_13, li_14, li_15, li_16, li_17, li_18, li_19, li_20, li_30, li_31, li_32, li_33, li_40, li_41, li_42, li_43, li_45, li_48, li_56, li_57, li_59, li_60, li_61, li_64, li_91, li_97, li_99, li_100, li_122, li_150, li_160, li_200, li_201, li_255, li_300, li_303, li_304, li_305, li_306, li_312, li_400, li_500, li_999, li_1003, li_3099, li_99999, li_100000, li_neg]); simp (disch := omega) only [ic_le_f, ic_le_t, ic_lt_f, ic_lt_t, ic_eq_f, ic_eq_t, ic_im, ic_mi, ic_mm_t, ic_mm_f, ic_mlt, ic_mle, ic_ilem, ic_iltm, ic_mmle_t, ic_mmle_f, pu_add, pu_mul, pu_in, pu_ck, pu_let, pu_cl, pu_cpok, pu_inr, Option.bind_some, ite_true, ite_false])
    rw [pu_sub (by omega)]
    exact hend _ (by omega)
  ((try simp only [li_0, li_1, li_2, li_3, li_4, li_5, li_6, li_7, li_8, li_9, li_10, li_11, li_12, li_13, li_14, li_15, li_16, li_17, li_18, li_19, li_20, li_30, li_31, li_32, li_33, li_40, li_41, li_42, li_43, li_45, li_48, li_56, li_57, li_59, li_60, li_61, li_64, li_91, li_97, li_99, li_100, li_122, li_150, li_160, li_200, li_201, li_255, li_300, li_303, li_304, li_305, li_306, li_312, li_400, li_500, li_999, li_1003, li_3099, li_99999, li_100000, li_neg]); simp (disch := omega) only [ic_le_f, ic_le_t, ic_lt_f, ic_lt_t, ic_eq_f, ic_eq_t, ic_im, ic_mi, ic_mm_t, ic_mm_f, ic_mlt, ic_mle, ic_ilem, ic_iltm, ic_mmle_t, ic_mmle_f, pu_add, pu_mul, pu_in, pu_ck, pu_let, pu_cl, pu_cpok, pu_inr, Option.bind_some, ite_true, ite_false])
  by_cases q2 : how = 2
  · subst q2
    have e : tkK 2 H = scK (fun x y => decide (H.A x 2 < H.A y 2)) H.P H.P.length := rfl
    rw [e]
    refine r7placeL c _ h0 (by omega) (by omega) (fun b j hb hj => ?_)
    have xj := getD_mem hj
    have xb := getD_mem hb
    have lj := v.lt _ xj
    have lb := v.lt _ xb
    have n8 := v.n8
    have aj := (v.av (H.P.getD j 0)).2.2.1
    have ab := (v.av (H.P.getD b 0)).2.2.1
    have rj : m 39 (6 * H.P.getD j 0) = nI (H.A (H.P.getD j 0) 2) := r7row c lj (k := 0) (by omega) (by omega)
    have rb : m 39 (6 * H.P.getD b 0) = nI (H.A (H.P.getD b 0) 2) := r7row c lb (k := 0) (by omega) (by omega)
    unfold b_X7_placeBy_18
    rw [c.2.1.1]
    ((try simp only [li_0, li_1, li_2, li_3, li_4, li_5, li_6, li_7, li_8, li_9, li_10, li_11, li_12, li_13, li_14, li_15, li_16, li_17, li_18, li_19, li_20, li_30, li_31, li_32, li_33, li_40, li_41, li_42, li_43, li_45, li_48, li_56, li_57, li_59, li_60, li_61, li_64, li_91, li_97, li_99, li_100, li_122, li_150, li_160, li_200, li_201, li_255, li_300, li_303, li_304, li_305, li_306, li_312, li_400, li_500, li_999, li_1003, li_3099, li_99999, li_100000, li_neg]); simp (disch := omega) only [ic_le_f, ic_le_t, ic_lt_f, ic_lt_t, ic_eq_f, ic_eq_t, ic_im, ic_mi, ic_mm_t, ic_mm_f, ic_mlt, ic_mle, ic_ilem, ic_iltm, ic_mmle_t, ic_mmle_f, pu_add, pu_mul, pu_in, pu_ck, pu_let, pu_cl, pu_cpok, pu_inr, Option.bind_some, ite_true, ite_false])
    rw [c.2.1.2.2 j hj, c.2.1.2.2 b hb]
    ((try simp only [li_0, li_1, li_2, li_3, li_4, li_5, li_6, li_7, li_8, li_9, li_10, li_11, li_12, li_13, li_14, li_15, li_16, li_17, li_18, li_19, li_20, li_30, li_31, li_32, li_33, li_40, li_41, li_42, li_43, li_45, li_48, li_56, li_57, li_59, li_60, li_61, li_64, li_91, li_97, li_99, li_100, li_122, li_150, li_160, li_200, li_201, li_255, li_300, li_303, li_304, li_305, li_306, li_312, li_400, li_500, li_999, li_1003, li_3099, li_99999, li_100000, li_neg]); simp (disch := omega) only [ic_le_f, ic_le_t, ic_lt_f, ic_lt_t, ic_eq_f, ic_eq_t, ic_im, ic_mi, ic_mm_t, ic_mm_f, ic_mlt, ic_mle, ic_ilem, ic_iltm, ic_mmle_t, ic_mmle_f, pu_add, pu_mul, pu_in, pu_ck, pu_let, pu_cl, pu_cpok, pu_inr, Option.bind_some, ite_true, ite_false])
    rw [rj, rb]
    rcases Nat.lt_or_ge (H.A (H.P.getD j 0) 2) (H.A (H.P.getD b 0) 2) with z | z
    · rw [if_pos (decide_eq_true z)]
      ((try simp only [b_X7_placeBy_101, b_X7_placeBy_106, li_0, li_1, li_2, li_3, li_4, li_5, li_6, li_7, li_8, li_9, li_10, li_11, li_12, li_13, li_14, li_15, li_16, li_17, li_18, li_19, li_20, li_30, li_31, li_32, li_33, li_40, li_41, li_42, li_43, li_45, li_48, li_56, li_57, li_59, li_60, li_61, li_64, li_91, li_97, li_99, li_100, li_122, li_150, li_160, li_200, li_201, li_255, li_300, li_303, li_304, li_305, li_306, li_312, li_400, li_500, li_999, li_1003, li_3099, li_99999, li_100000, li_neg]); simp (disch := omega) only [b_X7_placeBy_101, b_X7_placeBy_106, ic_le_f, ic_le_t, ic_lt_f, ic_lt_t, ic_eq_f, ic_eq_t, ic_im, ic_mi, ic_mm_t, ic_mm_f, ic_mlt, ic_mle, ic_ilem, ic_iltm, ic_mmle_t, ic_mmle_f, pu_add, pu_mul, pu_in, pu_ck, pu_let, pu_cl, pu_cpok, pu_inr, Option.bind_some, ite_true, ite_false])
    · rw [if_neg (show ¬ decide (_ < _) = true from fun y => absurd (of_decide_eq_true y) (by omega))]
      ((try simp only [b_X7_placeBy_75, b_X7_placeBy_105, b_X7_placeBy_106, li_0, li_1, li_2, li_3, li_4, li_5, li_6, li_7, li_8, li_9, li_10, li_11, li_12, li_13, li_14, li_15, li_16, li_17, li_18, li_19, li_20, li_30, li_31, li_32, li_33, li_40, li_41, li_42, li_43, li_45, li_48, li_56, li_57, li_59, li_60, li_61, li_64, li_91, li_97, li_99, li_100, li_122, li_150, li_160, li_200, li_201, li_255, li_300, li_303, li_304, li_305, li_306, li_312, li_400, li_500, li_999, li_1003, li_3099, li_99999, li_100000, li_neg]); simp (disch := omega) only [b_X7_placeBy_75, b_X7_placeBy_105, b_X7_placeBy_106, ic_le_f, ic_le_t, ic_lt_f, ic_lt_t, ic_eq_f, ic_eq_t, ic_im, ic_mi, ic_mm_t, ic_mm_f, ic_mlt, ic_mle, ic_ilem, ic_iltm, ic_mmle_t, ic_mmle_f, pu_add, pu_mul, pu_in, pu_ck, pu_let, pu_cl, pu_cpok, pu_inr, Option.bind_some, ite_true, ite_false])
  · have q3 : how = 3 := by omega
    subst q3
    have e : tkK 3 H = scK (fun x y => decide (H.A y 4 < H.A x 4)) H.P H.P.length := rfl
    rw [e]
    refine r7placeL c _ h0 (by omega) (by omega) (fun b j hb hj => ?_)
    have xj := getD_mem hj
    have xb := getD_mem hb
    have lj := v.lt _ xj
    have lb := v.lt _ xb
    have n8 := v.n8
    have aj := (v.av (H.P.getD j 0)).2.2.2.2.1
    have ab := (v.av (H.P.getD b 0)).2.2.2.2.1
    have rj : m 39 (6 * H.P.getD j 0 + 2) = nI (H.A (H.P.getD j 0) 4) := r7row c lj (k := 2) (by omega) (by omega)
    have rb : m 39 (6 * H.P.getD b 0 + 2) = nI (H.A (H.P.getD b 0) 4) := r7row c lb (k := 2) (by omega) (by omega)
    unfold b_X7_placeBy_18
    rw [c.2.1.1]
    ((try simp only [li_0, li_1, li_2, li_3, li_4, li_5, li_6, li_7, li_8, li_9, li_10, li_11, li_12, li_13, li_14, li_15, li_16, li_17, li_18, li_19, li_20, li_30, li_31, li_32, li_33, li_40, li_41, li_42, li_43, li_45, li_48, li_56, li_57, li_59, li_60, li_61, li_64, li_91, li_97, li_99, li_100, li_122, li_150, li_160, li_200, li_201, li_255, li_300, li_303, li_304, li_305, li_306, li_312, li_400, li_500, li_999, li_1003, li_3099, li_99999, li_100000, li_neg]); simp (disch := omega) only [ic_le_f, ic_le_t, ic_lt_f, ic_lt_t, ic_eq_f, ic_eq_t, ic_im, ic_mi, ic_mm_t, ic_mm_f, ic_mlt, ic_mle, ic_ilem, ic_iltm, ic_mmle_t, ic_mmle_f, pu_add, pu_mul, pu_in, pu_ck, pu_let, pu_cl, pu_cpok, pu_inr, Option.bind_some, ite_true, ite_false])
    rw [c.2.1.2.2 j hj, c.2.1.2.2 b hb]
    ((try simp only [b_X7_placeBy_75, li_0, li_1, li_2, li_3, li_4, li_5, li_6, li_7, li_8, li_9, li_10, li_11, li_12, li_13, li_14, li_15, li_16, li_17, li_18, li_19, li_20, li_30, li_31, li_32, li_33, li_40, li_41, li_42, li_43, li_45, li_48, li_56, li_57, li_59, li_60, li_61, li_64, li_91, li_97, li_99, li_100, li_122, li_150, li_160, li_200, li_201, li_255, li_300, li_303, li_304, li_305, li_306, li_312, li_400, li_500, li_999, li_1003, li_3099, li_99999, li_100000, li_neg]); simp (disch := omega) only [b_X7_placeBy_75, ic_le_f, ic_le_t, ic_lt_f, ic_lt_t, ic_eq_f, ic_eq_t, ic_im, ic_mi, ic_mm_t, ic_mm_f, ic_mlt, ic_mle, ic_ilem, ic_iltm, ic_mmle_t, ic_mmle_f, pu_add, pu_mul, pu_in, pu_ck, pu_let, pu_cl, pu_cpok, pu_inr, Option.bind_some, ite_true, ite_false])
    rw [rj, rb]
    rcases Nat.lt_or_ge (H.A (H.P.getD b 0) 4) (H.A (H.P.getD j 0) 4) with z | z
    · rw [if_pos (decide_eq_true z)]
      ((try simp only [b_X7_placeBy_101, b_X7_placeBy_106, li_0, li_1, li_2, li_3, li_4, li_5, li_6, li_7, li_8, li_9, li_10, li_11, li_12, li_13, li_14, li_15, li_16, li_17, li_18, li_19, li_20, li_30, li_31, li_32, li_33, li_40, li_41, li_42, li_43, li_45, li_48, li_56, li_57, li_59, li_60, li_61, li_64, li_91, li_97, li_99, li_100, li_122, li_150, li_160, li_200, li_201, li_255, li_300, li_303, li_304, li_305, li_306, li_312, li_400, li_500, li_999, li_1003, li_3099, li_99999, li_100000, li_neg]); simp (disch := omega) only [b_X7_placeBy_101, b_X7_placeBy_106, ic_le_f, ic_le_t, ic_lt_f, ic_lt_t, ic_eq_f, ic_eq_t, ic_im, ic_mi, ic_mm_t, ic_mm_f, ic_mlt, ic_mle, ic_ilem, ic_iltm, ic_mmle_t, ic_mmle_f, pu_add, pu_mul, pu_in, pu_ck, pu_let, pu_cl, pu_cpok, pu_inr, Option.bind_some, ite_true, ite_false])
    · rw [if_neg (show ¬ decide (_ < _) = true from fun y => absurd (of_decide_eq_true y) (by omega))]
      ((try simp only [b_X7_placeBy_105, b_X7_placeBy_106, li_0, li_1, li_2, li_3, li_4, li_5, li_6, li_7, li_8, li_9, li_10, li_11, li_12, li_13, li_14, li_15, li_16, li_17, li_18, li_19, li_20, li_30, li_31, li_32, li_33, li_40, li_41, li_42, li_43, li_45, li_48, li_56, li_57, li_59, li_60, li_61, li_64, li_91, li_97, li_99, li_100, li_122, li_150, li_160, li_200, li_201, li_255, li_300, li_303, li_304, li_305, li_306, li_312, li_400, li_500, li_999, li_1003, li_3099, li_99999, li_100000, li_neg]); simp (disch := omega) only [b_X7_placeBy_105, b_X7_placeBy_106, ic_le_f, ic_le_t, ic_lt_f, ic_lt_t, ic_eq_f, ic_eq_t, ic_im, ic_mi, ic_mm_t, ic_mm_f, ic_mlt, ic_mle, ic_ilem, ic_iltm, ic_mmle_t, ic_mmle_f, pu_add, pu_mul, pu_in, pu_ck, pu_let, pu_cl, pu_cpok, pu_inr, Option.bind_some, ite_true, ite_false])
