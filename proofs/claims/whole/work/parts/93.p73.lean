/-! PURE: the reference's goesNext -/
theorem rgo {m : qaM} {B : Nat → Nat} {L p : Nat} (t : TPR m B L) (h52 : ∀ k : Nat, k < 96 → m 52 k = nI (wtb.getD k 0)) (hp : p ≤ L) (h26 : m 36 26 = nI p) : ∃ m2, f_X7_goesNext m = some m2 ∧ RTk m m2 B L p := by
  have hL := t.2.2.1
  obtain ⟨e1, e2, e3, e4, e5⟩ := tkE_ok B L p hp
  have h52b : ∀ x : qaM, r7F m x → x 36 26 = nI (plK B L p) → ∃ m2, b_X7_goesNext_52 x = some m2 ∧ RTk m m2 B L p := by
    intro x hx h26
    have hk : r7F m (qa_st (qa_st (qa_st x 36 27 (nI (plK B L p))) 36 28 (nI 0)) 36 29 (nI 0)) := ((hx.st (by omega)).st (by omega)).st (by omega)
    have g26 : (qa_st (qa_st (qa_st x 36 27 (nI (plK B L p))) 36 28 (nI 0)) 36 29 (nI 0)) 36 26 = nI (plK B L p) := by rw [st_s, up_n (by omega), st_s, up_n (by omega), st_s, up_n (by omega), h26]
    have g27 : (qa_st (qa_st (qa_st x 36 27 (nI (plK B L p))) 36 28 (nI 0)) 36 29 (nI 0)) 36 27 = nI (plK B L p) := by rw [st_s, up_n (by omega), st_s, up_n (by omega), st_s, up_s]
    have g28 : (qa_st (qa_st (qa_st x 36 27 (nI (plK B L p))) 36 28 (nI 0)) 36 29 (nI 0)) 36 28 = nI 0 := by rw [st_s, up_n (by omega), st_s, up_s]
    have g29 : (qa_st (qa_st (qa_st x 36 27 (nI (plK B L p))) 36 28 (nI 0)) 36 29 (nI 0)) 36 29 = nI 0 := by rw [st_s, up_s]
    generalize hy : qa_st (qa_st (qa_st x 36 27 (nI (plK B L p))) 36 28 (nI 0)) 36 29 (nI 0) = y at hk g26 g27 g28 g29
    have ty := t.r7 hk
    unfold b_X7_goesNext_52
    simp only [li_0, li_1, li_2, li_3, li_4, li_5, li_6, li_7, li_8, li_9, li_10, li_11, li_12, li_13, li_14, li_15, li_16, li_17, li_18, li_19, li_20, li_30, li_31, li_32, li_33, li_40, li_41, li_42, li_43, li_45, li_48, li_56, li_57, li_59, li_60, li_61, li_64, li_91, li_97, li_99, li_100, li_122, li_150, li_160, li_200, li_201, li_255, li_300, li_303, li_304, li_305, li_306, li_312, li_400, li_500, li_999, li_1003, li_3099, li_99999, li_100000, li_1000000, li_65, li_23, li_neg]
    rw [h26, pu_let, pu_let, pu_let, hy, g26, ty.2.1]
    rcases Nat.lt_or_ge (plK B L p) L with q | q
    · have hb := ty.2.2.2 _ q
      rw [ic_eq_f (by omega) (by omega) (by omega), pu_in (by omega) (by omega), pu_ck, pu_cl (by omega), hb.2.2, pu_let, rletter hb.1, Option.bind_some]
      cases c1 : isLe (B (plK B L p)) with
      | true =>
        rw [if_pos rfl, if_neg n10]
        exact rletters t h52 hk q c1 g26 g27
      | false =>
        rw [if_neg (show ¬ (false = true) by decide), if_pos rfl, rdigit hb.1, Option.bind_some]
        cases c2 : isDi (B (plK B L p)) with
        | true =>
          rw [if_pos rfl, if_neg n10]
          exact rdigits t hk q c1 c2 g26 g27 g29
        | false =>
          rw [if_neg (show ¬ (false = true) by decide), if_pos rfl]
          have hE : tkE B L p = plK B L p + 1 := by
            unfold tkE
            rw [if_neg (by omega), if_neg (by rw [c1]; decide), if_neg (by rw [c2]; decide)]
          have hK := tknd_s q c1 c2 rfl
          have h390 : ∀ s : Int32, s = rK (tknd B L p) → ∃ m2, b_X7_goesNext_390 y s = some m2 ∧ RTk m m2 B L p := by
            intro s hs
            have f26 : (qa_st y 36 28 s) 36 26 = nI (plK B L p) := by rw [st_s, up_n (by omega), g26]
            refine ⟨qa_st (qa_st y 36 28 s) 36 26 (nI (plK B L p + 1)), ?_, (hk.st (by omega)).st (by omega), ?_, ?_, ?_, ?_⟩
            · unfold b_X7_goesNext_390
              simp only [li_0, li_1, li_2, li_3, li_4, li_5, li_6, li_7, li_8, li_9, li_10, li_11, li_12, li_13, li_14, li_15, li_16, li_17, li_18, li_19, li_20, li_30, li_31, li_32, li_33, li_40, li_41, li_42, li_43, li_45, li_48, li_56, li_57, li_59, li_60, li_61, li_64, li_91, li_97, li_99, li_100, li_122, li_150, li_160, li_200, li_201, li_255, li_300, li_303, li_304, li_305, li_306, li_312, li_400, li_500, li_999, li_1003, li_3099, li_99999, li_100000, li_1000000, li_65, li_23, li_neg]
              rw [pu_let, f26, pu_add, pu_let]
            · rw [st_s, up_s, hE]
            · rw [st_s, up_n (by omega), st_s, up_n (by omega), g27]
            · rw [st_s, up_n (by omega), st_s, up_s, hs]
            · rw [hK]
              cases c3 : isSi (B (plK B L p)) with
              | true =>
                have := isSi_2 c3
                have := hb.1
                rw [if_pos rfl]
                exact ⟨fun u => by omega, fun u => by omega, fun u => by omega⟩
              | false =>
                rw [if_neg (by decide)]
                exact ⟨fun u => by omega, fun u => by omega, fun u => by omega⟩
          have hsi : isSi (B (plK B L p)) = true → rK (tknd B L p) = nI (B (plK B L p)) := by
            intro c3
            have h3 := of_decide_eq_true c3
            rw [hK, if_pos c3]
            unfold rK
            rw [if_neg (by omega), if_neg (by omega), if_neg (by omega), if_pos (by omega)]
          have hsn : isSi (B (plK B L p)) = false → rK (tknd B L p) = nM 1 := by
            intro c3
            rw [hK, if_neg (by rw [c3]; decide)]
            rfl
          have hgo : (if isSi (B (plK B L p)) = true then b_X7_goesNext_374 y (nI (B (plK B L p))) else b_X7_goesNext_379 y (nI (B (plK B L p))) (nI 0)) = b_X7_goesNext_390 y (rK (tknd B L p)) := by
            by_cases c3 : isSi (B (plK B L p)) = true
            · rw [if_pos c3, hsi c3]
              unfold b_X7_goesNext_374 b_X7_goesNext_379
              simp only [li_0, li_1, li_2, li_3, li_4, li_5, li_6, li_7, li_8, li_9, li_10, li_11, li_12, li_13, li_14, li_15, li_16, li_17, li_18, li_19, li_20, li_30, li_31, li_32, li_33, li_40, li_41, li_42, li_43, li_45, li_48, li_56, li_57, li_59, li_60, li_61, li_64, li_91, li_97, li_99, li_100, li_122, li_150, li_160, li_200, li_201, li_255, li_300, li_303, li_304, li_305, li_306, li_312, li_400, li_500, li_999, li_1003, li_3099, li_99999, li_100000, li_1000000, li_65, li_23, li_neg]
              rw [if_neg n10]
            · have c4 : isSi (B (plK B L p)) = false := by
                cases c : isSi (B (plK B L p)) with
                | true => exact absurd c c3
                | false => rfl
              rw [if_neg c3, hsn c4]
              unfold b_X7_goesNext_379
              simp only [li_0, li_1, li_2, li_3, li_4, li_5, li_6, li_7, li_8, li_9, li_10, li_11, li_12, li_13, li_14, li_15, li_16, li_17, li_18, li_19, li_20, li_30, li_31, li_32, li_33, li_40, li_41, li_42, li_43, li_45, li_48, li_56, li_57, li_59, li_60, li_61, li_64, li_91, li_97, li_99, li_100, li_122, li_150, li_160, li_200, li_201, li_255, li_300, li_303, li_304, li_305, li_306, li_312, li_400, li_500, li_999, li_1003, li_3099, li_99999, li_100000, li_1000000, li_65, li_23, li_neg]
              rw [if_pos trivial]
          obtain ⟨m2, d1, d2⟩ := h390 _ rfl
          refine ⟨m2, ?_, d2⟩
          rw [← d1, ← hgo]
          have hb1 := hb.1
          unfold isSi
          by_cases s1 : B (plK B L p) = 40
          · rw [ic_eq_t s1, if_pos (decide_eq_true (Or.inl s1))]
          rw [ic_eq_f s1 (by omega) (by omega)]
          by_cases s2 : B (plK B L p) = 41
          · rw [ic_eq_t s2, if_pos (decide_eq_true (Or.inr (Or.inl s2)))]
          rw [ic_eq_f s2 (by omega) (by omega)]
          by_cases s3 : B (plK B L p) = 59
          · rw [ic_eq_t s3, if_pos (decide_eq_true (Or.inr (Or.inr (Or.inl s3))))]
          rw [ic_eq_f s3 (by omega) (by omega)]
          by_cases s4 : B (plK B L p) = 43
          · rw [ic_eq_t s4, if_pos (decide_eq_true (by omega))]
          rw [ic_eq_f s4 (by omega) (by omega)]
          by_cases s5 : B (plK B L p) = 45
          · rw [ic_eq_t s5, if_pos (decide_eq_true (by omega))]
          rw [ic_eq_f s5 (by omega) (by omega)]
          by_cases s6 : B (plK B L p) = 42
          · rw [ic_eq_t s6, if_pos (decide_eq_true (by omega))]
          rw [ic_eq_f s6 (by omega) (by omega)]
          by_cases s7 : B (plK B L p) = 60
          · rw [ic_eq_t s7, if_pos (decide_eq_true (by omega))]
          rw [ic_eq_f s7 (by omega) (by omega)]
          by_cases s8 : B (plK B L p) = 61
          · rw [ic_eq_t s8, if_pos (decide_eq_true (by omega))]
          rw [ic_eq_f s8 (by omega) (by omega), if_neg (fun w => by have := of_decide_eq_true w; omega)]
    · have hE : tkE B L p = plK B L p := by
        unfold tkE
        rw [if_pos q]
      have hK := tknd_e q
      rw [ic_eq_t (by omega)]
      refine ⟨y, rfl, hk, by rw [hE]; exact g26, g27, by rw [hK]; exact g28, ?_⟩
      rw [hK]
      exact ⟨fun u => by omega, fun u => by omega, fun u => by omega⟩
  obtain ⟨r, g1, g2⟩ := lp_at (f := fun s : qaM => b_X7_goesNext_0 s) (fun j s => r7F m s ∧ s 36 26 = nI (p + j) ∧ ∀ i : Nat, i < j → p + i < L ∧ isBl (B (p + i)) = true) (fun r => RTk m r B L p) 160 (s := m) ⟨r7F.rf m, h26, fun i hi => absurd hi (Nat.not_lt_zero _)⟩ (by omega) (by
    rintro j x hj ⟨a1, a2, a4⟩
    have tx := t.r7 a1
    have hj2 : p + j ≤ L := by
      cases j with
      | zero => omega
      | succ j =>
        have := (a4 j (by omega)).1
        omega
    have hend : (L ≤ p + j ∨ isBl (B (p + j)) = false) → ∃ m2, b_X7_goesNext_52 x = some m2 ∧ RTk m m2 B L p := by
      intro w
      have he : plK B L p = p + j := skF_u a4 w
      exact h52b x a1 (by rw [he]; exact a2)
    rcases Nat.lt_or_ge (p + j) L with y | y
    · have hb := (tx.2.2.2 _ y)
      have hst : b_X7_goesNext_0 x = if nI (B (p + j)) = nI 32 then b_X7_goesNext_39 x else if nI (B (p + j)) = nI 10 then b_X7_goesNext_39 x else qa_inr (b_X7_goesNext_52 x) := by
        unfold b_X7_goesNext_0
        simp only [li_0, li_1, li_2, li_3, li_4, li_5, li_6, li_7, li_8, li_9, li_10, li_11, li_12, li_13, li_14, li_15, li_16, li_17, li_18, li_19, li_20, li_30, li_31, li_32, li_33, li_40, li_41, li_42, li_43, li_45, li_48, li_56, li_57, li_59, li_60, li_61, li_64, li_91, li_97, li_99, li_100, li_122, li_150, li_160, li_200, li_201, li_255, li_300, li_303, li_304, li_305, li_306, li_312, li_400, li_500, li_999, li_1003, li_3099, li_99999, li_100000, li_1000000, li_65, li_23, li_neg]
        rw [a2, tx.2.1, ic_le_f y (by omega), pu_in (by omega) (by omega), pu_ck, pu_cl (by omega), hb.2.2, pu_ck]
      cases c : isBl (B (p + j)) with
      | true =>
        refine Or.inl ⟨qa_st x 36 26 (nI (p + (j + 1))), ?_, by omega, a1.st (by omega), by rw [st_s, up_s], fun i hi => ?_⟩
        · show b_X7_goesNext_0 x = _
          have h39 : b_X7_goesNext_39 x = some (.inl (qa_st x 36 26 (nI (p + (j + 1))))) := by
            unfold b_X7_goesNext_39
            simp only [li_0, li_1, li_2, li_3, li_4, li_5, li_6, li_7, li_8, li_9, li_10, li_11, li_12, li_13, li_14, li_15, li_16, li_17, li_18, li_19, li_20, li_30, li_31, li_32, li_33, li_40, li_41, li_42, li_43, li_45, li_48, li_56, li_57, li_59, li_60, li_61, li_64, li_91, li_97, li_99, li_100, li_122, li_150, li_160, li_200, li_201, li_255, li_300, li_303, li_304, li_305, li_306, li_312, li_400, li_500, li_999, li_1003, li_3099, li_99999, li_100000, li_1000000, li_65, li_23, li_neg]
            rw [a2, pu_add, pu_let]
            rfl
          rw [hst]
          rcases isBl_d c with d | d
          · rw [ic_eq_t d, h39]
          · rw [ic_eq_f (by omega) (by omega) (by omega), ic_eq_t d, h39]
        · by_cases u : i = j
          · rw [u]
            exact ⟨y, c⟩
          · exact a4 i (by omega)
      | false =>
        obtain ⟨m2, d1, d2⟩ := hend (Or.inr c)
        refine Or.inr ⟨m2, ?_, d2⟩
        show b_X7_goesNext_0 x = _
        obtain ⟨b1, b2⟩ := isBl_f c
        have hb1 := hb.1
        rw [hst, ic_eq_f b1 (by omega) (by omega), ic_eq_f b2 (by omega) (by omega), d1]
        rfl
    · obtain ⟨m2, d1, d2⟩ := hend (Or.inl y)
      refine Or.inr ⟨m2, ?_, d2⟩
      show b_X7_goesNext_0 x = _
      unfold b_X7_goesNext_0
      simp only [li_0, li_1, li_2, li_3, li_4, li_5, li_6, li_7, li_8, li_9, li_10, li_11, li_12, li_13, li_14, li_15, li_16, li_17, li_18, li_19, li_20, li_30, li_31, li_32, li_33, li_40, li_41, li_42, li_43, li_45, li_48, li_56, li_57, li_59, li_60, li_61, li_64, li_91, li_97, li_99, li_100, li_122, li_150, li_160, li_200, li_201, li_255, li_300, li_303, li_304, li_305, li_306, li_312, li_400, li_500, li_999, li_1003, li_3099, li_99999, li_100000, li_1000000, li_65, li_23, li_neg]
      rw [a2, tx.2.1, ic_le_t y (by omega), d1]
      rfl)
  unfold f_X7_goesNext
  rw [lp_X7_goesNext_0]
  exact ⟨r, g1, g2⟩
