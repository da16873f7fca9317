/-! PURE: the class reads a token -/
theorem k6F.t {a b c : qaM} (h1 : k6F a b) (h2 : k6F b c) : k6F a c := ⟨fun x hx => (h2.1 x hx).trans (h1.1 x hx), h2.2.trans h1.2⟩
theorem kstands {m : qaM} {B : Nat → Nat} {L q e w : Nat} (t : TPb m B L) (hw : w < 12) (hq : q ≤ e) (he : e ≤ L) (h2 : m 6 2 = nI q) (h3 : m 6 3 = nI e) : ∃ v : Nat, f_X4_stands w m = some (nI v) ∧ ((v = 1 ∧ MtW B q e w) ∨ (v = 0 ∧ ¬ MtW B q e w)) := by
  have hL := t.2.2.1
  obtain ⟨w1, w2, w3⟩ := wl_q w hw
  unfold f_X4_stands
  simp only [li_0, li_1, li_2, li_3, li_4, li_5, li_6, li_7, li_8, li_9, li_10, li_11, li_12, li_13, li_14, li_15, li_16, li_17, li_18, li_19, li_20, li_30, li_31, li_32, li_33, li_40, li_41, li_42, li_43, li_45, li_48, li_56, li_57, li_59, li_60, li_61, li_64, li_91, li_97, li_99, li_100, li_122, li_150, li_160, li_200, li_201, li_255, li_300, li_303, li_304, li_305, li_306, li_312, li_400, li_500, li_999, li_1003, li_3099, li_99999, li_100000, li_1000000, li_65, li_23, li_neg]
  rw [decide_eq_true hw, pu_ck, w1, h2, h3, pu_sub hq]
  by_cases z : wlF w = e - q
  · obtain ⟨r, g1, g2⟩ := lp_at (f := fun s : Int32 => b_X4_stands_20 w m s) (fun j s => s = nI j ∧ j ≤ wlF w ∧ ∀ i : Nat, i < j → wcF w i = B (q + i)) (fun r => (r = nI 1 ∧ MtW B q e w) ∨ (r = nI 0 ∧ ¬ MtW B q e w)) (wlF w) (s := nI 0) ⟨rfl, Nat.zero_le _, fun i hi => absurd hi (Nat.not_lt_zero _)⟩ (by omega) (by
      rintro j s hj ⟨rfl, a1, a2⟩
      rcases Nat.lt_or_ge j (wlF w) with y | y
      · obtain ⟨c1, c2, c3⟩ := wc_q w hw j y
        have hb := (t.2.2.2 (q + j) (by omega)).1
        have hst : b_X4_stands_20 w m (nI j) = (if nI (wcF w j) = nI (B (q + j)) then some (.inl (nI (j + 1))) else qa_inr (some (nI 0))) := by
          unfold b_X4_stands_20
          simp only [li_0, li_1, li_2, li_3, li_4, li_5, li_6, li_7, li_8, li_9, li_10, li_11, li_12, li_13, li_14, li_15, li_16, li_17, li_18, li_19, li_20, li_30, li_31, li_32, li_33, li_40, li_41, li_42, li_43, li_45, li_48, li_56, li_57, li_59, li_60, li_61, li_64, li_91, li_97, li_99, li_100, li_122, li_150, li_160, li_200, li_201, li_255, li_300, li_303, li_304, li_305, li_306, li_312, li_400, li_500, li_999, li_1003, li_3099, li_99999, li_100000, li_1000000, li_65, li_23, li_neg]
          rw [decide_eq_true hw, pu_ck, w1, ic_le_f y (by omega), pu_ck, pu_in y (by omega), pu_ck, h2, pu_add, kbyte t (by omega), Option.bind_some, if_pos (show q + j < L by omega), pu_cl (by omega), c1, pu_add, pu_let]
        by_cases x : wcF w j = B (q + j)
        · refine Or.inl ⟨nI (j + 1), ?_, y, rfl, by omega, fun i hi => ?_⟩
          · show b_X4_stands_20 w m (nI j) = _
            rw [hst, ic_eq_t x]
          · by_cases v : i = j
            · rw [v]
              exact x
            · exact a2 i (by omega)
        · refine Or.inr ⟨nI 0, ?_, Or.inr ⟨rfl, fun hm => x (hm.2 j y)⟩⟩
          show b_X4_stands_20 w m (nI j) = _
          rw [hst, ic_eq_f x (by omega) (by omega)]
          rfl
      · refine Or.inr ⟨nI 1, ?_, Or.inl ⟨rfl, z, fun k hk => a2 k (by omega)⟩⟩
        show b_X4_stands_20 w m (nI j) = _
        unfold b_X4_stands_20
        simp only [li_0, li_1, li_2, li_3, li_4, li_5, li_6, li_7, li_8, li_9, li_10, li_11, li_12, li_13, li_14, li_15, li_16, li_17, li_18, li_19, li_20, li_30, li_31, li_32, li_33, li_40, li_41, li_42, li_43, li_45, li_48, li_56, li_57, li_59, li_60, li_61, li_64, li_91, li_97, li_99, li_100, li_122, li_150, li_160, li_200, li_201, li_255, li_300, li_303, li_304, li_305, li_306, li_312, li_400, li_500, li_999, li_1003, li_3099, li_99999, li_100000, li_1000000, li_65, li_23, li_neg]
        rw [decide_eq_true hw, pu_ck, w1, ic_le_t (by omega) (by omega)]
        rfl)
    rw [if_pos (by rw [z]), lp_X4_stands_20, g1]
    rcases g2 with ⟨rfl, g3⟩ | ⟨rfl, g3⟩
    · exact ⟨1, rfl, Or.inl ⟨rfl, g3⟩⟩
    · exact ⟨0, rfl, Or.inr ⟨rfl, g3⟩⟩
  · rw [ic_eq_f z (by omega) (by omega)]
    exact ⟨0, rfl, Or.inr ⟨rfl, fun hm => z hm.1⟩⟩
def WKd (B : Nat → Nat) (q e k : Nat) : Prop := (∃ w, w < 12 ∧ MtW B q e w ∧ k = 300 + w) ∨ ((∀ w : Nat, w < 12 → ¬ MtW B q e w) ∧ k = 1)
theorem kwords {m : qaM} {B : Nat → Nat} {L q e : Nat} (t : TPb m B L) (hq : q ≤ e) (he : e ≤ L) (h2 : m 6 2 = nI q) (h3 : m 6 3 = nI e) : ∃ k : Nat, b_X4_readsWord_39 m = some (nI k, m) ∧ WKd B q e k := by
  obtain ⟨r, g1, k, rfl, g3⟩ := lp_at (f := fun s : Int32 => b_X4_readsWord_41 m s) (fun j s => s = nI j ∧ j ≤ 12 ∧ ∀ i : Nat, i < j → ¬ MtW B q e i) (fun r => ∃ k : Nat, r = (nI k, m) ∧ WKd B q e k) 12 (s := nI 0) ⟨rfl, Nat.zero_le _, fun i hi => absurd hi (Nat.not_lt_zero _)⟩ (by omega) (by
    rintro j s hj ⟨rfl, a1, a2⟩
    rcases Nat.lt_or_ge j 12 with y | y
    · have hall : ∀ j : Nat, j < 12 → f_X4_wordOf qa_m0 (nI j) = some j := by decide +kernel
      have hwo : f_X4_wordOf m (nI j) = some j := hall j y
      obtain ⟨v, v1, v2⟩ := kstands t y hq he h2 h3
      have hst : b_X4_readsWord_41 m (nI j) = (if nI v = nI 0 then some (.inl (nI (j + 1))) else qa_inr (some (nI (300 + j), m))) := by
        unfold b_X4_readsWord_41 b_X4_readsWord_58
        simp only [li_0, li_1, li_2, li_3, li_4, li_5, li_6, li_7, li_8, li_9, li_10, li_11, li_12, li_13, li_14, li_15, li_16, li_17, li_18, li_19, li_20, li_30, li_31, li_32, li_33, li_40, li_41, li_42, li_43, li_45, li_48, li_56, li_57, li_59, li_60, li_61, li_64, li_91, li_97, li_99, li_100, li_122, li_150, li_160, li_200, li_201, li_255, li_300, li_303, li_304, li_305, li_306, li_312, li_400, li_500, li_999, li_1003, li_3099, li_99999, li_100000, li_1000000, li_65, li_23, li_neg]
        rw [ic_le_f y (by omega), hwo, Option.bind_some, v1, Option.bind_some, pu_add, pu_let, pu_add]
      rcases v2 with ⟨rfl, v3⟩ | ⟨rfl, v3⟩
      · refine Or.inr ⟨(nI (300 + j), m), ?_, _, rfl, Or.inl ⟨j, y, v3, rfl⟩⟩
        show b_X4_readsWord_41 m (nI j) = _
        rw [hst, if_neg n10]
        rfl
      · refine Or.inl ⟨nI (j + 1), ?_, y, rfl, by omega, fun i hi => ?_⟩
        · show b_X4_readsWord_41 m (nI j) = _
          rw [hst, if_pos rfl]
        · by_cases u : i = j
          · rw [u]
            exact v3
          · exact a2 i (by omega)
    · refine Or.inr ⟨(nI 1, m), ?_, 1, rfl, Or.inr ⟨fun w hw => a2 w (by omega), rfl⟩⟩
      show b_X4_readsWord_41 m (nI j) = _
      unfold b_X4_readsWord_41
      simp only [li_0, li_1, li_2, li_3, li_4, li_5, li_6, li_7, li_8, li_9, li_10, li_11, li_12, li_13, li_14, li_15, li_16, li_17, li_18, li_19, li_20, li_30, li_31, li_32, li_33, li_40, li_41, li_42, li_43, li_45, li_48, li_56, li_57, li_59, li_60, li_61, li_64, li_91, li_97, li_99, li_100, li_122, li_150, li_160, li_200, li_201, li_255, li_300, li_303, li_304, li_305, li_306, li_312, li_400, li_500, li_999, li_1003, li_3099, li_99999, li_100000, li_1000000, li_65, li_23, li_neg]
      rw [ic_le_t (by omega) (by omega)]
      rfl)
  refine ⟨k, ?_, g3⟩
  unfold b_X4_readsWord_39
  simp only [li_0, li_1, li_2, li_3, li_4, li_5, li_6, li_7, li_8, li_9, li_10, li_11, li_12, li_13, li_14, li_15, li_16, li_17, li_18, li_19, li_20, li_30, li_31, li_32, li_33, li_40, li_41, li_42, li_43, li_45, li_48, li_56, li_57, li_59, li_60, li_61, li_64, li_91, li_97, li_99, li_100, li_122, li_150, li_160, li_200, li_201, li_255, li_300, li_303, li_304, li_305, li_306, li_312, li_400, li_500, li_999, li_1003, li_3099, li_99999, li_100000, li_1000000, li_65, li_23, li_neg]
  rw [lp_X4_readsWord_41, g1]
theorem kword {m : qaM} {B : Nat → Nat} {L q : Nat} (t : TPb m B L) (hq : q < L) (h2 : m 6 2 = nI q) (h3 : m 6 3 = nI (q + 1)) : ∃ k m2, f_X4_readsWord m = some (nI k, m2) ∧ k6F m m2 ∧ m2 6 2 = nI q ∧ m2 6 3 = nI (skF isLe B L (q + 1)) ∧ WKd B q (skF isLe B L (q + 1)) k := by
  have hL := t.2.2.1
  obtain ⟨m2, a1, a2, a3, a4⟩ := kskip (f := fun s : qaM × Int32 => b_X4_readsWord_2 s.1 s.2) (g := fun x => b_X4_readsWord_39 x) (P := isLe) (c := 3) t (by omega) (show q + 1 ≤ 160 by omega) h3 (by
    intro x j p hj hp t2 h3 hpL hP
    show b_X4_readsWord_2 x (nI j) = _
    unfold b_X4_readsWord_2
    simp only [li_0, li_1, li_2, li_3, li_4, li_5, li_6, li_7, li_8, li_9, li_10, li_11, li_12, li_13, li_14, li_15, li_16, li_17, li_18, li_19, li_20, li_30, li_31, li_32, li_33, li_40, li_41, li_42, li_43, li_45, li_48, li_56, li_57, li_59, li_60, li_61, li_64, li_91, li_97, li_99, li_100, li_122, li_150, li_160, li_200, li_201, li_255, li_300, li_303, li_304, li_305, li_306, li_312, li_400, li_500, li_999, li_1003, li_3099, li_99999, li_100000, li_1000000, li_65, li_23, li_neg]
    rw [ic_le_f hj (by omega), h3, kbyte t2 (by omega), Option.bind_some, if_pos hpL, kletter (t2.2.2.2 p hpL).1, Option.bind_some, if_pos hP, if_neg n10, pu_add, pu_let, pu_add, pu_let]) (by
    intro x j p hj hp t2 h3 hor
    show b_X4_readsWord_2 x (nI j) = _
    unfold b_X4_readsWord_2
    simp only [li_0, li_1, li_2, li_3, li_4, li_5, li_6, li_7, li_8, li_9, li_10, li_11, li_12, li_13, li_14, li_15, li_16, li_17, li_18, li_19, li_20, li_30, li_31, li_32, li_33, li_40, li_41, li_42, li_43, li_45, li_48, li_56, li_57, li_59, li_60, li_61, li_64, li_91, li_97, li_99, li_100, li_122, li_150, li_160, li_200, li_201, li_255, li_300, li_303, li_304, li_305, li_306, li_312, li_400, li_500, li_999, li_1003, li_3099, li_99999, li_100000, li_1000000, li_65, li_23, li_neg]
    by_cases z : j = 160
    · rw [ic_le_t (by omega) (by omega)]
    · rw [ic_le_f (by omega) (by omega), h3, kbyte t2 (by omega), Option.bind_some]
      by_cases y : p < L
      · have hP : isLe (B p) = false := by
          rcases hor with w | w | w
          · exact absurd w z
          · omega
          · exact w
        rw [if_pos y, kletter (t2.2.2.2 p y).1, Option.bind_some, if_neg (show ¬ isLe (B p) = true by rw [hP]; decide), if_pos rfl]
      · rw [if_neg y, kletterM, Option.bind_some, if_pos rfl])
  have hsk := skF_ok isLe B L (q + 1)
  have h22 : m2 6 2 = nI q := by rw [a3 2 (by omega), h2]
  obtain ⟨k, k1, k2⟩ := kwords (t.k6 a1) (q := q) (e := skF isLe B L (q + 1)) (by omega) (by rcases hsk.2.1 with z | z <;> omega) h22 a2
  refine ⟨k, m2, ?_, a1, h22, a2, k2⟩
  unfold f_X4_readsWord
  simp only [li_0, li_1, li_2, li_3, li_4, li_5, li_6, li_7, li_8, li_9, li_10, li_11, li_12, li_13, li_14, li_15, li_16, li_17, li_18, li_19, li_20, li_30, li_31, li_32, li_33, li_40, li_41, li_42, li_43, li_45, li_48, li_56, li_57, li_59, li_60, li_61, li_64, li_91, li_97, li_99, li_100, li_122, li_150, li_160, li_200, li_201, li_255, li_300, li_303, li_304, li_305, li_306, li_312, li_400, li_500, li_999, li_1003, li_3099, li_99999, li_100000, li_1000000, li_65, li_23, li_neg]
  rw [lp_X4_readsWord_2]
  exact a4 _ k1
theorem isDi_d {b : Nat} (h : isDi b = true) : 48 ≤ b ∧ b ≤ 57 := of_decide_eq_true h
theorem nvF_lt {B : Nat → Nat} {q : Nat} : ∀ j : Nat, (∀ i : Nat, i < j → isDi (B (q + i)) = true) → nvF B q j < 10 ^ j := by
  intro j
  induction j with
  | zero => exact fun _ => Nat.one_pos
  | succ j ih =>
    intro h
    have h1 := ih (fun i hi => h i (by omega))
    have h2 := isDi_d (h j (by omega))
    rw [nvF_s, Nat.pow_succ]
    omega
theorem nvF_9 {B : Nat → Nat} {q j : Nat} (hj : j ≤ 4) (h : ∀ i : Nat, i < j → isDi (B (q + i)) = true) : nvF B q j ≤ 9999 := by
  have h1 := nvF_lt (B := B) (q := q) j h
  have h2 : j = 0 ∨ j = 1 ∨ j = 2 ∨ j = 3 ∨ j = 4 := by omega
  rcases h2 with rfl | rfl | rfl | rfl | rfl <;> omega
theorem knums {m : qaM} {B : Nat → Nat} {L q e : Nat} (t : TPb m B L) (hq : q ≤ e) (he : e ≤ L) (hd : ∀ i : Nat, i < e - q → isDi (B (q + i)) = true) (h2 : m 6 2 = nI q) (h3 : m 6 3 = nI e) : ∃ k m2, b_X4_readsNumber_39 m = some (nI k, m2) ∧ k6F m m2 ∧ m2 6 2 = nI q ∧ m2 6 3 = nI e ∧ k = (if e - q ≤ 4 then 2 else 1) ∧ (k = 2 → m2 6 5 = nI (nvF B q (e - q))) := by
  have hL := t.2.2.1
  unfold b_X4_readsNumber_39
  simp only [li_0, li_1, li_2, li_3, li_4, li_5, li_6, li_7, li_8, li_9, li_10, li_11, li_12, li_13, li_14, li_15, li_16, li_17, li_18, li_19, li_20, li_30, li_31, li_32, li_33, li_40, li_41, li_42, li_43, li_45, li_48, li_56, li_57, li_59, li_60, li_61, li_64, li_91, li_97, li_99, li_100, li_122, li_150, li_160, li_200, li_201, li_255, li_300, li_303, li_304, li_305, li_306, li_312, li_400, li_500, li_999, li_1003, li_3099, li_99999, li_100000, li_1000000, li_65, li_23, li_neg]
  rw [h2, h3, pu_sub hq]
  by_cases z : e - q ≤ 4
  · rw [ic_le_t z (by omega), pu_let, if_pos z]
    have h22 : (qa_st m 6 5 (nI 0)) 6 2 = nI q := by rw [st_s, up_n (by omega), h2]
    have h33 : (qa_st m 6 5 (nI 0)) 6 3 = nI e := by rw [st_s, up_n (by omega), h3]
    have h55 : (qa_st m 6 5 (nI 0)) 6 5 = nI (nvF B q 0) := by
      rw [st_s, up_s]
      rfl
    rw [h22, pu_let, lp_X4_readsNumber_64]
    obtain ⟨r, g1, x, rfl, g2, g3, g4, g5⟩ := lp_at (f := fun s : qaM × Int32 => b_X4_readsNumber_64 s.1 s.2) (fun j s => s.2 = nI (q + j) ∧ j ≤ e - q ∧ k6F m s.1 ∧ s.1 6 2 = nI q ∧ s.1 6 3 = nI e ∧ s.1 6 5 = nI (nvF B q j)) (fun r => ∃ x, r = (nI 2, x) ∧ k6F m x ∧ x 6 2 = nI q ∧ x 6 3 = nI e ∧ x 6 5 = nI (nvF B q (e - q))) (e - q) (s := (qa_st m 6 5 (nI 0), nI q)) ⟨rfl, Nat.zero_le _, (k6F.rf m).st (by omega), h22, h33, h55⟩ (by omega) (by
      rintro j ⟨x, k⟩ hj ⟨a1, a2, a3, a4, a5, a6⟩
      have a1b : k = nI (q + j) := a1
      subst a1b
      replace a3 : k6F m x := a3
      replace a4 : x 6 2 = nI q := a4
      replace a5 : x 6 3 = nI e := a5
      replace a6 : x 6 5 = nI (nvF B q j) := a6
      rcases Nat.lt_or_ge j (e - q) with y | y
      · have hb := isDi_d (hd j y)
        have d4 : (qa_st x 6 5 (nI (nvF B q (j + 1)))) 6 2 = nI q := by rw [st_s, up_n (by omega), a4]
        have d5 : (qa_st x 6 5 (nI (nvF B q (j + 1)))) 6 3 = nI e := by rw [st_s, up_n (by omega), a5]
        have d6 : (qa_st x 6 5 (nI (nvF B q (j + 1)))) 6 5 = nI (nvF B q (j + 1)) := by rw [st_s, up_s]
        refine Or.inl ⟨(qa_st x 6 5 (nI (nvF B q (j + 1))), nI (q + (j + 1))), ?_, y, rfl, by omega, a3.st (by omega), d4, d5, d6⟩
        show b_X4_readsNumber_64 x (nI (q + j)) = _
        unfold b_X4_readsNumber_64
        simp only [li_0, li_1, li_2, li_3, li_4, li_5, li_6, li_7, li_8, li_9, li_10, li_11, li_12, li_13, li_14, li_15, li_16, li_17, li_18, li_19, li_20, li_30, li_31, li_32, li_33, li_40, li_41, li_42, li_43, li_45, li_48, li_56, li_57, li_59, li_60, li_61, li_64, li_91, li_97, li_99, li_100, li_122, li_150, li_160, li_200, li_201, li_255, li_300, li_303, li_304, li_305, li_306, li_312, li_400, li_500, li_999, li_1003, li_3099, li_99999, li_100000, li_1000000, li_65, li_23, li_neg]
        rw [a5, ic_le_f (by omega) (by omega), kbyte (t.k6 a3) (by omega), Option.bind_some, if_pos (show q + j < L by omega), a6, pu_mul, pu_add, pu_sub (by omega), pu_let, pu_add, pu_let, nvF_s, show nvF B q j * 10 + B (q + j) - 48 = nvF B q j * 10 + (B (q + j) - 48) by omega]
        rfl
      · have : j = e - q := by omega
        subst this
        refine Or.inr ⟨(nI 2, x), ?_, x, rfl, a3, a4, a5, a6⟩
        show b_X4_readsNumber_64 x (nI (q + (e - q))) = _
        unfold b_X4_readsNumber_64
        simp only [li_0, li_1, li_2, li_3, li_4, li_5, li_6, li_7, li_8, li_9, li_10, li_11, li_12, li_13, li_14, li_15, li_16, li_17, li_18, li_19, li_20, li_30, li_31, li_32, li_33, li_40, li_41, li_42, li_43, li_45, li_48, li_56, li_57, li_59, li_60, li_61, li_64, li_91, li_97, li_99, li_100, li_122, li_150, li_160, li_200, li_201, li_255, li_300, li_303, li_304, li_305, li_306, li_312, li_400, li_500, li_999, li_1003, li_3099, li_99999, li_100000, li_1000000, li_65, li_23, li_neg]
        rw [a5, ic_le_t (by omega) (by omega)]
        rfl)
    exact ⟨2, x, g1, g2, g3, g4, rfl, fun _ => g5⟩
  · rw [ic_le_f (by omega) (by omega), if_neg z]
    exact ⟨1, m, rfl, k6F.rf m, h2, h3, rfl, fun w => by omega⟩
theorem knum {m : qaM} {B : Nat → Nat} {L q : Nat} (t : TPb m B L) (hq : q < L) (hdq : isDi (B q) = true) (h2 : m 6 2 = nI q) (h3 : m 6 3 = nI (q + 1)) : ∃ k m2, f_X4_readsNumber m = some (nI k, m2) ∧ k6F m m2 ∧ m2 6 2 = nI q ∧ m2 6 3 = nI (skF isDi B L (q + 1)) ∧ k = (if skF isDi B L (q + 1) - q ≤ 4 then 2 else 1) ∧ (k = 2 → m2 6 5 = nI (nvF B q (skF isDi B L (q + 1) - q))) := by
  have hL := t.2.2.1
  obtain ⟨m2, a1, a2, a3, a4⟩ := kskip (f := fun s : qaM × Int32 => b_X4_readsNumber_2 s.1 s.2) (g := fun x => b_X4_readsNumber_39 x) (P := isDi) (c := 3) t (by omega) (show q + 1 ≤ 160 by omega) h3 (by
    intro x j p hj hp t2 h3 hpL hP
    show b_X4_readsNumber_2 x (nI j) = _
    unfold b_X4_readsNumber_2
    simp only [li_0, li_1, li_2, li_3, li_4, li_5, li_6, li_7, li_8, li_9, li_10, li_11, li_12, li_13, li_14, li_15, li_16, li_17, li_18, li_19, li_20, li_30, li_31, li_32, li_33, li_40, li_41, li_42, li_43, li_45, li_48, li_56, li_57, li_59, li_60, li_61, li_64, li_91, li_97, li_99, li_100, li_122, li_150, li_160, li_200, li_201, li_255, li_300, li_303, li_304, li_305, li_306, li_312, li_400, li_500, li_999, li_1003, li_3099, li_99999, li_100000, li_1000000, li_65, li_23, li_neg]
    rw [ic_le_f hj (by omega), h3, kbyte t2 (by omega), Option.bind_some, if_pos hpL, kdigit (t2.2.2.2 p hpL).1, Option.bind_some, if_pos hP, if_neg n10, pu_add, pu_let, pu_add, pu_let]) (by
    intro x j p hj hp t2 h3 hor
    show b_X4_readsNumber_2 x (nI j) = _
    unfold b_X4_readsNumber_2
    simp only [li_0, li_1, li_2, li_3, li_4, li_5, li_6, li_7, li_8, li_9, li_10, li_11, li_12, li_13, li_14, li_15, li_16, li_17, li_18, li_19, li_20, li_30, li_31, li_32, li_33, li_40, li_41, li_42, li_43, li_45, li_48, li_56, li_57, li_59, li_60, li_61, li_64, li_91, li_97, li_99, li_100, li_122, li_150, li_160, li_200, li_201, li_255, li_300, li_303, li_304, li_305, li_306, li_312, li_400, li_500, li_999, li_1003, li_3099, li_99999, li_100000, li_1000000, li_65, li_23, li_neg]
    by_cases z : j = 160
    · rw [ic_le_t (by omega) (by omega)]
    · rw [ic_le_f (by omega) (by omega), h3, kbyte t2 (by omega), Option.bind_some]
      by_cases y : p < L
      · have hP : isDi (B p) = false := by
          rcases hor with w | w | w
          · exact absurd w z
          · omega
          · exact w
        rw [if_pos y, kdigit (t2.2.2.2 p y).1, Option.bind_some, if_neg (show ¬ isDi (B p) = true by rw [hP]; decide), if_pos rfl]
      · rw [if_neg y, kdigitM, Option.bind_some, if_pos rfl])
  have hsk := skF_ok isDi B L (q + 1)
  have h22 : m2 6 2 = nI q := by rw [a3 2 (by omega), h2]
  obtain ⟨k, m3, k1, k2, k3, k4, k5, k6⟩ := knums (t.k6 a1) (q := q) (e := skF isDi B L (q + 1)) (by omega) (by rcases hsk.2.1 with z | z <;> omega) (fun i hi => by
    cases i with
    | zero => exact hdq
    | succ i => exact (hsk.2.2.1 (q + (i + 1)) (by omega) (by omega)).2) h22 a2
  refine ⟨k, m3, ?_, a1.t k2, k3, k4, k5, k6⟩
  unfold f_X4_readsNumber
  simp only [li_0, li_1, li_2, li_3, li_4, li_5, li_6, li_7, li_8, li_9, li_10, li_11, li_12, li_13, li_14, li_15, li_16, li_17, li_18, li_19, li_20, li_30, li_31, li_32, li_33, li_40, li_41, li_42, li_43, li_45, li_48, li_56, li_57, li_59, li_60, li_61, li_64, li_91, li_97, li_99, li_100, li_122, li_150, li_160, li_200, li_201, li_255, li_300, li_303, li_304, li_305, li_306, li_312, li_400, li_500, li_999, li_1003, li_3099, li_99999, li_100000, li_1000000, li_65, li_23, li_neg]
  rw [lp_X4_readsNumber_2]
  exact a4 _ k1
