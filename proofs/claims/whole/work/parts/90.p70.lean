/-! PURE: the class goes on to the next token -/
theorem isBl_d {b : Nat} (h : isBl b = true) : b = 32 ∨ b = 10 := of_decide_eq_true h
theorem isBl_f {b : Nat} (h : isBl b = false) : b ≠ 32 ∧ b ≠ 10 := by
  have := of_decide_eq_false h
  omega
theorem tknd_w {B : Nat → Nat} {L p k : Nat} (h1 : plK B L p < L) (h2 : isLe (B (plK B L p)) = true) (h3 : WKd B (plK B L p) (tkE B L p) k) : tknd B L p = k := tkP_u (tknd_ok B L p) (Or.inr (Or.inl ⟨h1, h2, h3⟩))
theorem tknd_n {B : Nat → Nat} {L p k : Nat} (h1 : plK B L p < L) (h2 : isLe (B (plK B L p)) = false) (h3 : isDi (B (plK B L p)) = true) (h4 : k = if tkE B L p - plK B L p ≤ 4 then 2 else 1) : tknd B L p = k := tkP_u (tknd_ok B L p) (Or.inr (Or.inr (Or.inl ⟨h1, h2, h3, h4⟩)))
theorem tknd_s {B : Nat → Nat} {L p k : Nat} (h1 : plK B L p < L) (h2 : isLe (B (plK B L p)) = false) (h3 : isDi (B (plK B L p)) = false) (h4 : k = if isSi (B (plK B L p)) = true then B (plK B L p) else 1) : tknd B L p = k := tkP_u (tknd_ok B L p) (Or.inr (Or.inr (Or.inr ⟨h1, h2, h3, h4⟩)))
theorem tknd_e {B : Nat → Nat} {L p : Nat} (h1 : L ≤ plK B L p) : tknd B L p = 0 := tkP_u (tknd_ok B L p) (Or.inl ⟨h1, rfl⟩)
/-- a byte a sign is -/
theorem isSi_2 {b : Nat} (h : isSi b = true) : b ≠ 2 := by
  have := of_decide_eq_true h
  omega
theorem kgo59 {m : qaM} {B : Nat → Nat} {L p : Nat} (t : TPb m B L) (hp : p ≤ L) (h2 : m 6 2 = nI (plK B L p)) : ∃ m2, b_X4_goesOn_59 m = some m2 ∧ k6F m m2 ∧ m2 6 2 = nI (plK B L p) ∧ m2 6 3 = nI (tkE B L p) ∧ m2 6 4 = nI (tknd B L p) ∧ (tknd B L p = 2 → m2 6 5 = nI (tkV B L p)) := by
  have hL := t.2.2.1
  obtain ⟨e1, e2, e3, e4, e5⟩ := tkE_ok B L p hp
  unfold b_X4_goesOn_59 b_X4_goesOn_147
  simp only [li_0, li_1, li_2, li_3, li_4, li_5, li_6, li_7, li_8, li_9, li_10, li_11, li_12, li_13, li_14, li_15, li_16, li_17, li_18, li_19, li_20, li_30, li_31, li_32, li_33, li_40, li_41, li_42, li_43, li_45, li_48, li_56, li_57, li_59, li_60, li_61, li_64, li_91, li_97, li_99, li_100, li_122, li_150, li_160, li_200, li_201, li_255, li_300, li_303, li_304, li_305, li_306, li_312, li_400, li_500, li_999, li_1003, li_3099, li_99999, li_100000, li_1000000, li_65, li_23, li_neg]
  rw [h2, kbyte t (by omega), Option.bind_some, pu_add, pu_let]
  have hk : k6F m (qa_st m 6 3 (nI (plK B L p + 1))) := (k6F.rf m).st (by omega)
  have g2 : (qa_st m 6 3 (nI (plK B L p + 1))) 6 2 = nI (plK B L p) := by rw [st_s, up_n (by omega), h2]
  have g3 : (qa_st m 6 3 (nI (plK B L p + 1))) 6 3 = nI (plK B L p + 1) := by rw [st_s, up_s]
  have t2 := t.k6 hk
  rcases Nat.lt_or_ge (plK B L p) L with q | q
  · have hb := (t.2.2.2 _ q).1
    rw [if_pos q, ic_le_t (Nat.zero_le _) (by omega), kletter hb, Option.bind_some]
    cases c1 : isLe (B (plK B L p)) with
    | true =>
      obtain ⟨k, m2, k1, k2, k3, k4, k5⟩ := kword t2 q g2 g3
      have hE : tkE B L p = skF isLe B L (plK B L p + 1) := by
        unfold tkE
        rw [if_neg (by omega), if_pos c1]
      rw [← hE] at k4 k5
      have hK := tknd_w q c1 k5
      refine ⟨qa_st m2 6 4 (nI k), ?_, (hk.t k2).st (by omega), ?_, ?_, ?_, ?_⟩
      · rw [if_pos rfl, if_neg n10, k1, Option.bind_some, pu_let]
      · rw [st_s, up_n (by omega), k3]
      · rw [st_s, up_n (by omega), k4]
      · rw [st_s, up_s, hK]
      · rw [hK]
        intro z
        rcases k5 with ⟨w, w1, w2, w3⟩ | ⟨w1, w2⟩ <;> omega
    | false =>
      rw [if_neg (show ¬ (false = true) by decide), if_pos rfl, kdigit hb, Option.bind_some]
      cases c2 : isDi (B (plK B L p)) with
      | true =>
        obtain ⟨k, m2, k1, k2, k3, k4, k5, k6⟩ := knum t2 q c2 g2 g3
        have hE : tkE B L p = skF isDi B L (plK B L p + 1) := by
          unfold tkE
          rw [if_neg (by omega), if_neg (by rw [c1]; decide), if_pos c2]
        rw [← hE] at k4 k5 k6
        have hK := tknd_n q c1 c2 k5
        refine ⟨qa_st m2 6 4 (nI k), ?_, (hk.t k2).st (by omega), ?_, ?_, ?_, ?_⟩
        · rw [if_pos rfl, if_neg n10, k1, Option.bind_some, pu_let]
        · rw [st_s, up_n (by omega), k3]
        · rw [st_s, up_n (by omega), k4]
        · rw [st_s, up_s, hK]
        · rw [hK]
          intro z
          rw [st_s, up_n (by omega)]
          exact k6 z
      | false =>
        have hE : tkE B L p = plK B L p + 1 := by
          unfold tkE
          rw [if_neg (by omega), if_neg (by rw [c1]; decide), if_neg (by rw [c2]; decide)]
        have hK := tknd_s q c1 c2 rfl
        refine ⟨qa_st (qa_st m 6 3 (nI (plK B L p + 1))) 6 4 (nI (tknd B L p)), ?_, hk.st (by omega), ?_, ?_, ?_, ?_⟩
        · rw [if_neg (show ¬ (false = true) by decide), if_pos rfl, ksign hb, Option.bind_some, hK]
          cases c3 : isSi (B (plK B L p)) with
          | true => rw [if_pos rfl, if_neg n10, pu_let, if_pos rfl]
          | false => rw [if_neg (show ¬ (false = true) by decide), if_pos rfl, pu_let, if_neg (show ¬ (false = true) by decide)]
        · rw [st_s, up_n (by omega), g2]
        · rw [st_s, up_n (by omega), g3, hE]
        · rw [st_s, up_s]
        · rw [hK]
          intro z
          cases c3 : isSi (B (plK B L p)) with
          | true =>
            rw [c3, if_pos rfl] at z
            exact absurd z (isSi_2 c3)
          | false =>
            rw [c3, if_neg (by decide)] at z
            omega
  · have hE : tkE B L p = plK B L p := by
      unfold tkE
      rw [if_pos q]
    have hK := tknd_e q
    rw [if_neg (show ¬ plK B L p < L by omega), ic_ilem (Or.inl (by omega)) (by omega) (by omega), pu_let]
    have g4 : (qa_st (qa_st m 6 3 (nI (plK B L p + 1))) 6 4 (nI 0)) 6 2 = nI (plK B L p) := by rw [st_s, up_n (by omega), g2]
    rw [g4, pu_let]
    refine ⟨_, rfl, (hk.st (by omega)).st (by omega), ?_, ?_, ?_, ?_⟩
    · rw [st_s, up_n (by omega), g4]
    · rw [st_s, up_s, hE]
    · rw [st_s, up_n (by omega), st_s, up_s, hK]
    · rw [hK]
      intro z
      cases z
theorem kgo {m : qaM} {B : Nat → Nat} {L p : Nat} (t : TPb m B L) (hp : p ≤ L) (h3 : m 6 3 = nI p) : ∃ m2, f_X4_goesOn m = some m2 ∧ k6F m m2 ∧ m2 6 2 = nI (plK B L p) ∧ m2 6 3 = nI (tkE B L p) ∧ m2 6 4 = nI (tknd B L p) ∧ (tknd B L p = 2 → m2 6 5 = nI (tkV B L p)) := by
  have hL := t.2.2.1
  have hk : k6F m (qa_st m 6 2 (nI p)) := (k6F.rf m).st (by omega)
  have g2 : (qa_st m 6 2 (nI p)) 6 2 = nI p := by rw [st_s, up_s]
  obtain ⟨m2, a1, a2, a3, a4⟩ := kskip (f := fun s : qaM × Int32 => b_X4_goesOn_10 s.1 s.2) (g := fun x => b_X4_goesOn_59 x) (P := isBl) (c := 2) (t.k6 hk) (by omega) (show p ≤ 160 by omega) g2 (by
    intro x j p hj hp t2 h3 hpL hP
    show b_X4_goesOn_10 x (nI j) = _
    unfold b_X4_goesOn_10 b_X4_goesOn_43
    simp only [li_0, li_1, li_2, li_3, li_4, li_5, li_6, li_7, li_8, li_9, li_10, li_11, li_12, li_13, li_14, li_15, li_16, li_17, li_18, li_19, li_20, li_30, li_31, li_32, li_33, li_40, li_41, li_42, li_43, li_45, li_48, li_56, li_57, li_59, li_60, li_61, li_64, li_91, li_97, li_99, li_100, li_122, li_150, li_160, li_200, li_201, li_255, li_300, li_303, li_304, li_305, li_306, li_312, li_400, li_500, li_999, li_1003, li_3099, li_99999, li_100000, li_1000000, li_65, li_23, li_neg]
    rw [ic_le_f hj (by omega), h3, kbyte t2 (by omega), Option.bind_some, if_pos hpL]
    have hb := (t2.2.2.2 p hpL).1
    by_cases z : B p = 32
    · rw [ic_eq_t z, pu_add, pu_let, pu_add, pu_let]
    · rw [ic_eq_f z (by omega) (by omega), Option.bind_some, ic_eq_t ((isBl_d hP).resolve_left z), pu_add, pu_let, pu_add, pu_let]) (by
    intro x j p hj hp t2 h3 hor
    show b_X4_goesOn_10 x (nI j) = _
    unfold b_X4_goesOn_10
    simp only [li_0, li_1, li_2, li_3, li_4, li_5, li_6, li_7, li_8, li_9, li_10, li_11, li_12, li_13, li_14, li_15, li_16, li_17, li_18, li_19, li_20, li_30, li_31, li_32, li_33, li_40, li_41, li_42, li_43, li_45, li_48, li_56, li_57, li_59, li_60, li_61, li_64, li_91, li_97, li_99, li_100, li_122, li_150, li_160, li_200, li_201, li_255, li_300, li_303, li_304, li_305, li_306, li_312, li_400, li_500, li_999, li_1003, li_3099, li_99999, li_100000, li_1000000, li_65, li_23, li_neg]
    by_cases z : j = 160
    · rw [ic_le_t (by omega) (by omega)]
    · rw [ic_le_f (by omega) (by omega), h3, kbyte t2 (by omega), Option.bind_some]
      by_cases y : p < L
      · have hP : isBl (B p) = false := by
          rcases hor with w | w | w
          · exact absurd w z
          · omega
          · exact w
        have hb := (t2.2.2.2 p y).1
        obtain ⟨b1, b2⟩ := isBl_f hP
        rw [if_pos y, ic_eq_f b1 (by omega) (by omega), Option.bind_some, ic_eq_f b2 (by omega) (by omega)]
      · rw [if_neg y, ic_mi (by omega) (by omega) (by omega), Option.bind_some, ic_mi (by omega) (by omega) (by omega)])
  obtain ⟨m3, b1, b2, b3, b4, b5, b6⟩ := kgo59 (t.k6 (hk.t a1)) hp a2
  refine ⟨m3, ?_, (hk.t a1).t b2, b3, b4, b5, b6⟩
  unfold f_X4_goesOn
  simp only [li_0, li_1, li_2, li_3, li_4, li_5, li_6, li_7, li_8, li_9, li_10, li_11, li_12, li_13, li_14, li_15, li_16, li_17, li_18, li_19, li_20, li_30, li_31, li_32, li_33, li_40, li_41, li_42, li_43, li_45, li_48, li_56, li_57, li_59, li_60, li_61, li_64, li_91, li_97, li_99, li_100, li_122, li_150, li_160, li_200, li_201, li_255, li_300, li_303, li_304, li_305, li_306, li_312, li_400, li_500, li_999, li_1003, li_3099, li_99999, li_100000, li_1000000, li_65, li_23, li_neg]
  rw [h3, pu_let, lp_X4_goesOn_10]
  exact a4 _ b1
