/-! PURE: the reference goes on to the next token -/
theorem rletter {m : qaM} {b : Nat} (hb : b ≤ 255) : f_X7_in m (nI b) (nI 97) (nI 122) = some (if isLe b = true then nI 1 else nI 0) := by
  rw [r7in (by omega) (by omega) (by omega)]
  unfold isLe
  congr 1
  by_cases z : 97 ≤ b ∧ b ≤ 122
  · rw [if_pos z, if_pos (decide_eq_true z)]
  · rw [if_neg z, if_neg (fun w => z (of_decide_eq_true w))]
theorem rdigit {m : qaM} {b : Nat} (hb : b ≤ 255) : f_X7_in m (nI b) (nI 48) (nI 57) = some (if isDi b = true then nI 1 else nI 0) := by
  rw [r7in (by omega) (by omega) (by omega)]
  unfold isDi
  congr 1
  by_cases z : 48 ≤ b ∧ b ≤ 57
  · rw [if_pos z, if_pos (decide_eq_true z)]
  · rw [if_neg z, if_neg (fun w => z (of_decide_eq_true w))]
/-- the reference's token, at place p -/
def RTk (m m2 : qaM) (B : Nat → Nat) (L p : Nat) : Prop := r7F m m2 ∧ m2 36 26 = nI (tkE B L p) ∧ m2 36 27 = nI (plK B L p) ∧ m2 36 28 = rK (tknd B L p) ∧ rVl (tkV B L p) (tknd B L p) (m2 36 29)
theorem rletters {m x0 : qaM} {B : Nat → Nat} {L p : Nat} (t : TPR m B L) (h52 : ∀ k : Nat, k < 96 → m 52 k = nI (wtb.getD k 0)) (hr : r7F m x0) (hq : plK B L p < L) (hq2 : isLe (B (plK B L p)) = true) (h26 : x0 36 26 = nI (plK B L p)) (h27 : x0 36 27 = nI (plK B L p)) :
    ∃ m2, lp_X7_goesNext_103 x0 = some m2 ∧ RTk m m2 B L p := by
  have hL := t.2.2.1
  obtain ⟨r, g1, g2⟩ := lp_at (f := fun s : qaM => b_X7_goesNext_103 s) (fun j s => r7F m s ∧ s 36 26 = nI (plK B L p + j) ∧ s 36 27 = nI (plK B L p) ∧ ∀ i : Nat, i < j → plK B L p + i < L ∧ isLe (B (plK B L p + i)) = true) (fun r => RTk m r B L p) 160 (s := x0) ⟨hr, h26, h27, fun i hi => absurd hi (Nat.not_lt_zero _)⟩ (by omega) (by
    rintro j x hj ⟨a1, a2, a3, a4⟩
    have tx := t.r7 a1
    have hj2 : plK B L p + j ≤ L := by
      cases j with
      | zero => omega
      | succ j =>
        have := (a4 j (by omega)).1
        omega
    have hend : (L ≤ plK B L p + j ∨ isLe (B (plK B L p + j)) = false) → ∃ m2, b_X7_goesNext_146 x = some m2 ∧ RTk m m2 B L p := by
      intro w
      have he : skF isLe B L (plK B L p + 1) = plK B L p + j := skF_1 ⟨hq, hq2⟩ a4 w
      have hE : tkE B L p = plK B L p + j := by
        unfold tkE
        rw [if_neg (by omega), if_pos hq2, he]
      have hj1 : 0 < j := by
        rcases Nat.eq_zero_or_pos j with z | z
        · subst z
          rcases w with w | w
          · omega
          · rw [Nat.add_zero, hq2] at w
            cases w
        · exact z
      obtain ⟨k, m2, b1, b2, b3, b4, b5, b6, b7⟩ := rword (V := tkV B L p) tx (fun k hk => by rw [a1.1 52 (by decide)]; exact h52 k hk) (show plK B L p < plK B L p + j by omega) hj2 (fun i hi1 hi2 => by
        have := (a4 (i - plK B L p) (by omega)).2
        rw [show plK B L p + (i - plK B L p) = i by omega] at this
        exact isLe_d this) a2 a3
      rw [← hE] at b2 b4
      have hK := tknd_w hq hq2 b2
      refine ⟨m2, b1, a1.t b3, b4, b5, ?_, ?_⟩
      · rw [hK]
        exact b6
      · rw [hK]
        exact b7
    rcases Nat.lt_or_ge (plK B L p + j) L with y | y
    · have hb := (tx.2.2.2 _ y)
      cases c : isLe (B (plK B L p + j)) with
      | true =>
        refine Or.inl ⟨qa_st x 36 26 (nI (plK B L p + (j + 1))), ?_, by omega, a1.st (by omega), by rw [st_s, up_s], by rw [st_s, up_n (by omega), a3], fun i hi => ?_⟩
        · show b_X7_goesNext_103 x = _
          unfold b_X7_goesNext_103
          simp only [li_0, li_1, li_2, li_3, li_4, li_5, li_6, li_7, li_8, li_9, li_10, li_11, li_12, li_13, li_14, li_15, li_16, li_17, li_18, li_19, li_20, li_30, li_31, li_32, li_33, li_40, li_41, li_42, li_43, li_45, li_48, li_56, li_57, li_59, li_60, li_61, li_64, li_91, li_97, li_99, li_100, li_122, li_150, li_160, li_200, li_201, li_255, li_300, li_303, li_304, li_305, li_306, li_312, li_400, li_500, li_999, li_1003, li_3099, li_99999, li_100000, li_1000000, li_65, li_23, li_neg]
          rw [a2, tx.2.1, ic_le_f y (by omega), pu_in (by omega) (by omega), pu_ck, pu_cl (by omega), hb.2.2, rletter hb.1, Option.bind_some, if_pos c, if_neg n10, pu_add, pu_let]
          rfl
        · by_cases u : i = j
          · rw [u]
            exact ⟨y, c⟩
          · exact a4 i (by omega)
      | false =>
        obtain ⟨m2, d1, d2⟩ := hend (Or.inr c)
        refine Or.inr ⟨m2, ?_, d2⟩
        show b_X7_goesNext_103 x = _
        unfold b_X7_goesNext_103
        simp only [li_0, li_1, li_2, li_3, li_4, li_5, li_6, li_7, li_8, li_9, li_10, li_11, li_12, li_13, li_14, li_15, li_16, li_17, li_18, li_19, li_20, li_30, li_31, li_32, li_33, li_40, li_41, li_42, li_43, li_45, li_48, li_56, li_57, li_59, li_60, li_61, li_64, li_91, li_97, li_99, li_100, li_122, li_150, li_160, li_200, li_201, li_255, li_300, li_303, li_304, li_305, li_306, li_312, li_400, li_500, li_999, li_1003, li_3099, li_99999, li_100000, li_1000000, li_65, li_23, li_neg]
        rw [a2, tx.2.1, ic_le_f y (by omega), pu_in (by omega) (by omega), pu_ck, pu_cl (by omega), hb.2.2, rletter hb.1, Option.bind_some, if_neg (show ¬ isLe (B (plK B L p + j)) = true by rw [c]; decide), if_pos rfl, d1]
        rfl
    · obtain ⟨m2, d1, d2⟩ := hend (Or.inl y)
      refine Or.inr ⟨m2, ?_, d2⟩
      show b_X7_goesNext_103 x = _
      unfold b_X7_goesNext_103
      simp only [li_0, li_1, li_2, li_3, li_4, li_5, li_6, li_7, li_8, li_9, li_10, li_11, li_12, li_13, li_14, li_15, li_16, li_17, li_18, li_19, li_20, li_30, li_31, li_32, li_33, li_40, li_41, li_42, li_43, li_45, li_48, li_56, li_57, li_59, li_60, li_61, li_64, li_91, li_97, li_99, li_100, li_122, li_150, li_160, li_200, li_201, li_255, li_300, li_303, li_304, li_305, li_306, li_312, li_400, li_500, li_999, li_1003, li_3099, li_99999, li_100000, li_1000000, li_65, li_23, li_neg]
      rw [a2, tx.2.1, ic_le_t y (by omega), d1]
      rfl)
  rw [lp_X7_goesNext_103]
  exact ⟨r, g1, g2⟩
theorem rdigits {m x0 : qaM} {B : Nat → Nat} {L p : Nat} (t : TPR m B L) (hr : r7F m x0) (hq : plK B L p < L) (hq1 : isLe (B (plK B L p)) = false) (hq2 : isDi (B (plK B L p)) = true) (h26 : x0 36 26 = nI (plK B L p)) (h27 : x0 36 27 = nI (plK B L p)) (h29 : x0 36 29 = nI 0) :
    ∃ m2, lp_X7_goesNext_230 x0 (nI 0) = some m2 ∧ RTk m m2 B L p := by
  have hL := t.2.2.1
  obtain ⟨r, g1, g2⟩ := lp_at (f := fun s : qaM × Int32 => b_X7_goesNext_230 s.1 s.2) (fun j s => s.2 = nI j ∧ r7F m s.1 ∧ s.1 36 26 = nI (plK B L p + j) ∧ s.1 36 27 = nI (plK B L p) ∧ (j ≤ 4 → s.1 36 29 = nI (nvF B (plK B L p) j)) ∧ ∀ i : Nat, i < j → plK B L p + i < L ∧ isDi (B (plK B L p + i)) = true) (fun r => RTk m r B L p) 160 (s := (x0, nI 0)) ⟨rfl, hr, h26, h27, fun _ => h29, fun i hi => absurd hi (Nat.not_lt_zero _)⟩ (by omega) (by
    rintro j ⟨x, w⟩ hj ⟨a0, a1, a2, a3, a5, a4⟩
    have a0b : w = nI j := a0
    subst a0b
    replace a1 : r7F m x := a1
    replace a2 : x 36 26 = nI (plK B L p + j) := a2
    replace a3 : x 36 27 = nI (plK B L p) := a3
    replace a5 : j ≤ 4 → x 36 29 = nI (nvF B (plK B L p) j) := a5
    have tx := t.r7 a1
    have hj2 : plK B L p + j ≤ L := by
      cases j with
      | zero => omega
      | succ j =>
        have := (a4 j (by omega)).1
        omega
    have hend : (L ≤ plK B L p + j ∨ isDi (B (plK B L p + j)) = false) → ∃ m2, b_X7_goesNext_309 x (nI j) = some m2 ∧ RTk m m2 B L p := by
      intro w
      have he : skF isDi B L (plK B L p + 1) = plK B L p + j := skF_1 ⟨hq, hq2⟩ a4 w
      have hE : tkE B L p = plK B L p + j := by
        unfold tkE
        rw [if_neg (by omega), if_neg (by rw [hq1]; decide), if_pos hq2, he]
      have hK := tknd_n hq hq1 hq2 rfl
      rw [hE, show plK B L p + j - plK B L p = j by omega] at hK
      have hV : tkV B L p = nvF B (plK B L p) j := by
        unfold tkV
        rw [hE, show plK B L p + j - plK B L p = j by omega]
      have h3 : ∀ s : Int32, b_X7_goesNext_320 x s = some (qa_st x 36 28 s) ∧ r7F m (qa_st x 36 28 s) ∧ (qa_st x 36 28 s) 36 26 = nI (tkE B L p) ∧ (qa_st x 36 28 s) 36 27 = nI (plK B L p) ∧ (qa_st x 36 28 s) 36 28 = s ∧ (qa_st x 36 28 s) 36 29 = x 36 29 := fun s => ⟨rfl, a1.st (by omega), by rw [st_s, up_n (by omega), a2, hE], by rw [st_s, up_n (by omega), a3], by rw [st_s, up_s], by rw [st_s, up_n (by omega)]⟩
      unfold b_X7_goesNext_309
      simp only [li_0, li_1, li_2, li_3, li_4, li_5, li_6, li_7, li_8, li_9, li_10, li_11, li_12, li_13, li_14, li_15, li_16, li_17, li_18, li_19, li_20, li_30, li_31, li_32, li_33, li_40, li_41, li_42, li_43, li_45, li_48, li_56, li_57, li_59, li_60, li_61, li_64, li_91, li_97, li_99, li_100, li_122, li_150, li_160, li_200, li_201, li_255, li_300, li_303, li_304, li_305, li_306, li_312, li_400, li_500, li_999, li_1003, li_3099, li_99999, li_100000, li_1000000, li_65, li_23, li_neg]
      by_cases z : j ≤ 4
      · rw [if_pos z] at hK
        obtain ⟨c1, c2, c3, c4, c5, c6⟩ := h3 (nI 1)
        refine ⟨_, by rw [ic_le_t z (by omega), c1], c2, c3, c4, by rw [hK, c5]; rfl, ?_⟩
        rw [hK, c6, a5 z, hV]
        exact ⟨fun _ => rfl, fun u => by omega, fun u => by omega⟩
      · rw [if_neg z] at hK
        obtain ⟨c1, c2, c3, c4, c5, c6⟩ := h3 (nM 1)
        refine ⟨_, by rw [ic_le_f (by omega) (by omega), c1], c2, c3, c4, by rw [hK, c5]; rfl, ?_⟩
        rw [hK]
        exact ⟨fun u => by omega, fun u => by omega, fun u => by omega⟩
    rcases Nat.lt_or_ge (plK B L p + j) L with y | y
    · have hb := (tx.2.2.2 _ y)
      cases c : isDi (B (plK B L p + j)) with
      | true =>
        have hd := isDi_d c
        have h290 : ∀ s : Int32, b_X7_goesNext_290 x (nI j) s = some (.inl (qa_st (qa_st x 36 29 s) 36 26 (nI (plK B L p + (j + 1))), nI (j + 1))) := by
          intro s
          have : (qa_st x 36 29 s) 36 26 = nI (plK B L p + j) := by rw [st_s, up_n (by omega), a2]
          unfold b_X7_goesNext_290
          simp only [li_0, li_1, li_2, li_3, li_4, li_5, li_6, li_7, li_8, li_9, li_10, li_11, li_12, li_13, li_14, li_15, li_16, li_17, li_18, li_19, li_20, li_30, li_31, li_32, li_33, li_40, li_41, li_42, li_43, li_45, li_48, li_56, li_57, li_59, li_60, li_61, li_64, li_91, li_97, li_99, li_100, li_122, li_150, li_160, li_200, li_201, li_255, li_300, li_303, li_304, li_305, li_306, li_312, li_400, li_500, li_999, li_1003, li_3099, li_99999, li_100000, li_1000000, li_65, li_23, li_neg]
          rw [pu_let, pu_add, pu_let, this, pu_add, pu_let]
          rfl
        have hst : b_X7_goesNext_230 x (nI j) = b_X7_goesNext_290 x (nI j) (if 4 ≤ j then nI 0 else nI (nvF B (plK B L p) (j + 1))) := by
          unfold b_X7_goesNext_230
          simp only [li_0, li_1, li_2, li_3, li_4, li_5, li_6, li_7, li_8, li_9, li_10, li_11, li_12, li_13, li_14, li_15, li_16, li_17, li_18, li_19, li_20, li_30, li_31, li_32, li_33, li_40, li_41, li_42, li_43, li_45, li_48, li_56, li_57, li_59, li_60, li_61, li_64, li_91, li_97, li_99, li_100, li_122, li_150, li_160, li_200, li_201, li_255, li_300, li_303, li_304, li_305, li_306, li_312, li_400, li_500, li_999, li_1003, li_3099, li_99999, li_100000, li_1000000, li_65, li_23, li_neg]
          rw [a2, tx.2.1, ic_le_f y (by omega), pu_in (by omega) (by omega), pu_ck, pu_cl (by omega), hb.2.2, rdigit hb.1, Option.bind_some, if_pos c, if_neg n10]
          by_cases z : 4 ≤ j
          · rw [ic_le_t z (by omega), if_pos z]
          · rw [ic_le_f (by omega) (by omega), if_neg z, pu_ck, a5 (by omega), pu_mul, pu_add, pu_sub (by omega), nvF_s, show 10 * nvF B (plK B L p) j + B (plK B L p + j) - 48 = nvF B (plK B L p) j * 10 + (B (plK B L p + j) - 48) by omega]
        have hall : ∀ V : Int32, (j + 1 ≤ 4 → V = nI (nvF B (plK B L p) (j + 1))) → (qa_st (qa_st x 36 29 V) 36 26 (nI (plK B L p + (j + 1)))) 36 26 = nI (plK B L p + (j + 1)) ∧ (qa_st (qa_st x 36 29 V) 36 26 (nI (plK B L p + (j + 1)))) 36 27 = nI (plK B L p) ∧ (j + 1 ≤ 4 → (qa_st (qa_st x 36 29 V) 36 26 (nI (plK B L p + (j + 1)))) 36 29 = nI (nvF B (plK B L p) (j + 1))) := by
          intro V hV
          refine ⟨?_, ?_, fun z => ?_⟩
          · rw [st_s, up_s]
          · rw [st_s, up_n (by omega), st_s, up_n (by omega), a3]
          · rw [st_s, up_n (by omega), st_s, up_s, hV z]
        obtain ⟨e1, e2, e3⟩ := hall (if 4 ≤ j then nI 0 else nI (nvF B (plK B L p) (j + 1))) (fun z => if_neg (by omega))
        refine Or.inl ⟨(qa_st (qa_st x 36 29 (if 4 ≤ j then nI 0 else nI (nvF B (plK B L p) (j + 1)))) 36 26 (nI (plK B L p + (j + 1))), nI (j + 1)), hst.trans (h290 _), by omega, rfl, (a1.st (by omega)).st (by omega), e1, e2, e3, fun i hi => ?_⟩
        · by_cases u : i = j
          · rw [u]
            exact ⟨y, c⟩
          · exact a4 i (by omega)
      | false =>
        obtain ⟨m2, d1, d2⟩ := hend (Or.inr c)
        refine Or.inr ⟨m2, ?_, d2⟩
        show b_X7_goesNext_230 x (nI j) = _
        unfold b_X7_goesNext_230
        simp only [li_0, li_1, li_2, li_3, li_4, li_5, li_6, li_7, li_8, li_9, li_10, li_11, li_12, li_13, li_14, li_15, li_16, li_17, li_18, li_19, li_20, li_30, li_31, li_32, li_33, li_40, li_41, li_42, li_43, li_45, li_48, li_56, li_57, li_59, li_60, li_61, li_64, li_91, li_97, li_99, li_100, li_122, li_150, li_160, li_200, li_201, li_255, li_300, li_303, li_304, li_305, li_306, li_312, li_400, li_500, li_999, li_1003, li_3099, li_99999, li_100000, li_1000000, li_65, li_23, li_neg]
        rw [a2, tx.2.1, ic_le_f y (by omega), pu_in (by omega) (by omega), pu_ck, pu_cl (by omega), hb.2.2, rdigit hb.1, Option.bind_some, if_neg (show ¬ isDi (B (plK B L p + j)) = true by rw [c]; decide), if_pos rfl, d1]
        rfl
    · obtain ⟨m2, d1, d2⟩ := hend (Or.inl y)
      refine Or.inr ⟨m2, ?_, d2⟩
      show b_X7_goesNext_230 x (nI j) = _
      unfold b_X7_goesNext_230
      simp only [li_0, li_1, li_2, li_3, li_4, li_5, li_6, li_7, li_8, li_9, li_10, li_11, li_12, li_13, li_14, li_15, li_16, li_17, li_18, li_19, li_20, li_30, li_31, li_32, li_33, li_40, li_41, li_42, li_43, li_45, li_48, li_56, li_57, li_59, li_60, li_61, li_64, li_91, li_97, li_99, li_100, li_122, li_150, li_160, li_200, li_201, li_255, li_300, li_303, li_304, li_305, li_306, li_312, li_400, li_500, li_999, li_1003, li_3099, li_99999, li_100000, li_1000000, li_65, li_23, li_neg]
      rw [a2, tx.2.1, ic_le_t y (by omega), d1]
      rfl)
  rw [lp_X7_goesNext_230]
  exact ⟨r, g1, g2⟩
