/-! PURE: the call feed -/
theorem qp_feed : qaP_feed Rel := by
  intro m a1 a2 a3 a4 a5 a6 h
  obtain ⟨H, N, S, hD⟩ := h
  have ⟨c, r, v, hl, hw, t, tp, kk, sh, nt⟩ := hD
  obtain ⟨B, L, tb⟩ := tp.b
  have hL := tb.2.2.1
  have hbad : ∀ (h6 : f_X6_feed m a1 a2 a3 a4 a5 a6 = some (nM 2, m)) (h7 : f_X7_feed m a1 a2 a3 a4 a5 a6 = some (nM 2, m)), ∃ (r : Int32) (m1 : qaM) (m2 : qaM), f_X6_feed m a1 a2 a3 a4 a5 a6 = some (r, m1) ∧ f_X7_feed m1 a1 a2 a3 a4 a5 a6 = some (r, m2) ∧ Rel m2 := fun h6 h7 => ⟨nM 2, m, m, h6, h7, Rel.mk hD⟩
  have hcnt : (∃ n : Nat, 1 ≤ n ∧ n ≤ 5 ∧ a1 = nI n) ∨ ((∀ R : Option (Int32 × qaM), (if a1 < nI 1 then some (nM 2, m) else if nI 5 < a1 then some (nM 2, m) else R) = some (nM 2, m)) ∧ f_X7_in m a1 (nI 1) (nI 5) = some (nI 0)) := by
    rcases anyI a1 with q | ⟨n, hn, rfl⟩
    · refine Or.inr ⟨fun R => if_pos ?_, r7in_n q (by omega)⟩
      rw [Int32.lt_iff_toInt_lt] at q ⊢
      have h0 : (0 : Int32).toInt = 0 := by decide
      rw [pu_t (by omega)]
      omega
    · by_cases z : 1 ≤ n ∧ n ≤ 5
      · exact Or.inl ⟨n, z.1, z.2, rfl⟩
      · refine Or.inr ⟨fun R => ?_, by rw [r7in hn (by omega) (by omega), if_neg z]⟩
        by_cases y : n < 1
        · rw [ic_lt_t y (by omega)]
        · rw [ic_lt_f (by omega) (by omega), ic_lt_t (by omega) (by omega)]
  rcases hcnt with ⟨n, n1, n5, rfl⟩ | ⟨q1, q2⟩
  · have c6 : ∀ R : Option (Int32 × qaM), (if nI n < nI 1 then some (nM 2, m) else if nI 5 < nI n then some (nM 2, m) else R) = R := fun R => by rw [ic_lt_f n1 (by omega), ic_lt_f n5 (by omega)]
    have c7 : f_X7_in m (nI n) (nI 1) (nI 5) = some (nI 1) := by rw [r7in (by omega) (by omega) (by omega), if_pos ⟨n1, n5⟩]
    rcases byte6 (m := m) (x := a2) with ⟨b2, i2, rfl, p2, q2⟩ | ⟨p2, q2⟩
    · rcases byte6 (m := m) (x := a3) with ⟨b3, i3, rfl, p3, q3⟩ | ⟨p3, q3⟩
      · rcases byte6 (m := m) (x := a4) with ⟨b4, i4, rfl, p4, q4⟩ | ⟨p4, q4⟩
        · rcases byte6 (m := m) (x := a5) with ⟨b5, i5, rfl, p5, q5⟩ | ⟨p5, q5⟩
          · rcases byte6 (m := m) (x := a6) with ⟨b6, i6, rfl, p6, q6⟩ | ⟨p6, q6⟩
            · have k6 := kfeed (n := n) tb.1 (fun k hk => (tb.2.2.2 k hk).2.1) n1 n5 hL p2 p3 p4 p5 p6
              by_cases z : L + n ≤ 160
              · rw [if_pos z] at k6
                obtain ⟨x, k1, k2⟩ := k6
                have k7 := rfeed (m := x) (B := B) (L := L) (n := n) (by rw [k2.1 36 (by decide)]; exact tb.2.1) (fun k hk => by rw [k2.1 42 (by decide)]; exact (tb.2.2.2 k hk).2.2) n1 n5 hL q2 q3 q4 q5 q6
                rw [if_pos z] at k7
                obtain ⟨y, j1, j2⟩ := k7
                have f : qF [6, 7, 36, 42] m y := (k2.1.mo (by simp)).t2 j2.1 (by simp)
                have o : o36l [9] m y := (o36l.q (k := []) k2.1 (by decide)).tr j2.2.1 (by simp) (fun _ z => z)
                refine ⟨nI (L + n), x, y, k1, j1, H, N, S, c.F f (by decide) (by decide) (by decide) (by decide) (by decide) (by decide), r.T f (by decide) (by decide) (by decide) (by decide) (by decide) o (by decide) (by decide) (by decide) (by decide), v, hl, hw, t.F f (by decide) (by decide) (by decide) (by decide) (by decide) (by decide) o (by decide), ⟨L + n, z, ?_, j2.2.2.1, fun k hk => ⟨fdB B L b2 b3 b4 b5 b6 k, ?_, ?_, j2.2.2.2 k hk⟩⟩, kk.F f (by decide) (by decide) (by decide) (by decide) (by decide) (by decide) (by decide) (by decide) (by decide) (by decide) o (by decide) (by decide) (by decide) (by decide) (by decide) (Nat.le_refl _) (fun _ _ => ⟨rfl, rfl⟩), sh.F f (by decide) (by decide) (by decide) (by decide) (by decide) (by decide), nt.F (f 8 (by decide)) rfl⟩
                · rw [j2.1 6 (by decide)]
                  exact k2.2.1
                · unfold fdB
                  split
                  · exact (tb.2.2.2 k (by assumption)).1
                  · repeat' split
                    all_goals omega
                · rw [j2.1 7 (by decide)]
                  exact k2.2.2 k hk
              · rw [if_neg z] at k6
                have k7 := rfeed (n := n) tb.2.1 (fun k hk => (tb.2.2.2 k hk).2.2) n1 n5 hL q2 q3 q4 q5 q6
                rw [if_neg z] at k7
                exact ⟨nM 4, m, m, k6, k7, Rel.mk hD⟩
            · refine hbad ?_ ?_
              · unfold f_X6_feed
                simp only [li_0, li_1, li_2, li_3, li_4, li_5, li_6, li_7, li_8, li_9, li_10, li_11, li_12, li_13, li_14, li_15, li_16, li_17, li_18, li_19, li_20, li_30, li_31, li_32, li_33, li_40, li_41, li_42, li_43, li_45, li_48, li_56, li_57, li_59, li_60, li_61, li_64, li_91, li_97, li_99, li_100, li_122, li_150, li_160, li_200, li_201, li_255, li_300, li_303, li_304, li_305, li_306, li_312, li_400, li_500, li_999, li_1003, li_3099, li_99999, li_100000, li_1000000, li_65, li_23, li_neg]
                rw [c6, p2, Option.bind_some, if_neg n10, p3, Option.bind_some, if_neg n10, p4, Option.bind_some, if_neg n10, p5, Option.bind_some, if_neg n10, p6, Option.bind_some, if_pos rfl]
              · unfold f_X7_feed
                simp only [li_0, li_1, li_2, li_3, li_4, li_5, li_6, li_7, li_8, li_9, li_10, li_11, li_12, li_13, li_14, li_15, li_16, li_17, li_18, li_19, li_20, li_30, li_31, li_32, li_33, li_40, li_41, li_42, li_43, li_45, li_48, li_56, li_57, li_59, li_60, li_61, li_64, li_91, li_97, li_99, li_100, li_122, li_150, li_160, li_200, li_201, li_255, li_300, li_303, li_304, li_305, li_306, li_312, li_400, li_500, li_999, li_1003, li_3099, li_99999, li_100000, li_1000000, li_65, li_23, li_neg]
                rw [c7, Option.bind_some, if_neg n10, q2, Option.bind_some, if_neg n10, q3, Option.bind_some, if_neg n10, q4, Option.bind_some, if_neg n10, q5, Option.bind_some, if_neg n10, q6, Option.bind_some, if_pos rfl]
          · refine hbad ?_ ?_
            · unfold f_X6_feed
              simp only [li_0, li_1, li_2, li_3, li_4, li_5, li_6, li_7, li_8, li_9, li_10, li_11, li_12, li_13, li_14, li_15, li_16, li_17, li_18, li_19, li_20, li_30, li_31, li_32, li_33, li_40, li_41, li_42, li_43, li_45, li_48, li_56, li_57, li_59, li_60, li_61, li_64, li_91, li_97, li_99, li_100, li_122, li_150, li_160, li_200, li_201, li_255, li_300, li_303, li_304, li_305, li_306, li_312, li_400, li_500, li_999, li_1003, li_3099, li_99999, li_100000, li_1000000, li_65, li_23, li_neg]
              rw [c6, p2, Option.bind_some, if_neg n10, p3, Option.bind_some, if_neg n10, p4, Option.bind_some, if_neg n10, p5, Option.bind_some, if_pos rfl]
            · unfold f_X7_feed
              simp only [li_0, li_1, li_2, li_3, li_4, li_5, li_6, li_7, li_8, li_9, li_10, li_11, li_12, li_13, li_14, li_15, li_16, li_17, li_18, li_19, li_20, li_30, li_31, li_32, li_33, li_40, li_41, li_42, li_43, li_45, li_48, li_56, li_57, li_59, li_60, li_61, li_64, li_91, li_97, li_99, li_100, li_122, li_150, li_160, li_200, li_201, li_255, li_300, li_303, li_304, li_305, li_306, li_312, li_400, li_500, li_999, li_1003, li_3099, li_99999, li_100000, li_1000000, li_65, li_23, li_neg]
              rw [c7, Option.bind_some, if_neg n10, q2, Option.bind_some, if_neg n10, q3, Option.bind_some, if_neg n10, q4, Option.bind_some, if_neg n10, q5, Option.bind_some, if_pos rfl]
        · refine hbad ?_ ?_
          · unfold f_X6_feed
            simp only [li_0, li_1, li_2, li_3, li_4, li_5, li_6, li_7, li_8, li_9, li_10, li_11, li_12, li_13, li_14, li_15, li_16, li_17, li_18, li_19, li_20, li_30, li_31, li_32, li_33, li_40, li_41, li_42, li_43, li_45, li_48, li_56, li_57, li_59, li_60, li_61, li_64, li_91, li_97, li_99, li_100, li_122, li_150, li_160, li_200, li_201, li_255, li_300, li_303, li_304, li_305, li_306, li_312, li_400, li_500, li_999, li_1003, li_3099, li_99999, li_100000, li_1000000, li_65, li_23, li_neg]
            rw [c6, p2, Option.bind_some, if_neg n10, p3, Option.bind_some, if_neg n10, p4, Option.bind_some, if_pos rfl]
          · unfold f_X7_feed
            simp only [li_0, li_1, li_2, li_3, li_4, li_5, li_6, li_7, li_8, li_9, li_10, li_11, li_12, li_13, li_14, li_15, li_16, li_17, li_18, li_19, li_20, li_30, li_31, li_32, li_33, li_40, li_41, li_42, li_43, li_45, li_48, li_56, li_57, li_59, li_60, li_61, li_64, li_91, li_97, li_99, li_100, li_122, li_150, li_160, li_200, li_201, li_255, li_300, li_303, li_304, li_305, li_306, li_312, li_400, li_500, li_999, li_1003, li_3099, li_99999, li_100000, li_1000000, li_65, li_23, li_neg]
            rw [c7, Option.bind_some, if_neg n10, q2, Option.bind_some, if_neg n10, q3, Option.bind_some, if_neg n10, q4, Option.bind_some, if_pos rfl]
      · refine hbad ?_ ?_
        · unfold f_X6_feed
          simp only [li_0, li_1, li_2, li_3, li_4, li_5, li_6, li_7, li_8, li_9, li_10, li_11, li_12, li_13, li_14, li_15, li_16, li_17, li_18, li_19, li_20, li_30, li_31, li_32, li_33, li_40, li_41, li_42, li_43, li_45, li_48, li_56, li_57, li_59, li_60, li_61, li_64, li_91, li_97, li_99, li_100, li_122, li_150, li_160, li_200, li_201, li_255, li_300, li_303, li_304, li_305, li_306, li_312, li_400, li_500, li_999, li_1003, li_3099, li_99999, li_100000, li_1000000, li_65, li_23, li_neg]
          rw [c6, p2, Option.bind_some, if_neg n10, p3, Option.bind_some, if_pos rfl]
        · unfold f_X7_feed
          simp only [li_0, li_1, li_2, li_3, li_4, li_5, li_6, li_7, li_8, li_9, li_10, li_11, li_12, li_13, li_14, li_15, li_16, li_17, li_18, li_19, li_20, li_30, li_31, li_32, li_33, li_40, li_41, li_42, li_43, li_45, li_48, li_56, li_57, li_59, li_60, li_61, li_64, li_91, li_97, li_99, li_100, li_122, li_150, li_160, li_200, li_201, li_255, li_300, li_303, li_304, li_305, li_306, li_312, li_400, li_500, li_999, li_1003, li_3099, li_99999, li_100000, li_1000000, li_65, li_23, li_neg]
          rw [c7, Option.bind_some, if_neg n10, q2, Option.bind_some, if_neg n10, q3, Option.bind_some, if_pos rfl]
    · refine hbad ?_ ?_
      · unfold f_X6_feed
        simp only [li_0, li_1, li_2, li_3, li_4, li_5, li_6, li_7, li_8, li_9, li_10, li_11, li_12, li_13, li_14, li_15, li_16, li_17, li_18, li_19, li_20, li_30, li_31, li_32, li_33, li_40, li_41, li_42, li_43, li_45, li_48, li_56, li_57, li_59, li_60, li_61, li_64, li_91, li_97, li_99, li_100, li_122, li_150, li_160, li_200, li_201, li_255, li_300, li_303, li_304, li_305, li_306, li_312, li_400, li_500, li_999, li_1003, li_3099, li_99999, li_100000, li_1000000, li_65, li_23, li_neg]
        rw [c6, p2, Option.bind_some, if_pos rfl]
      · unfold f_X7_feed
        simp only [li_0, li_1, li_2, li_3, li_4, li_5, li_6, li_7, li_8, li_9, li_10, li_11, li_12, li_13, li_14, li_15, li_16, li_17, li_18, li_19, li_20, li_30, li_31, li_32, li_33, li_40, li_41, li_42, li_43, li_45, li_48, li_56, li_57, li_59, li_60, li_61, li_64, li_91, li_97, li_99, li_100, li_122, li_150, li_160, li_200, li_201, li_255, li_300, li_303, li_304, li_305, li_306, li_312, li_400, li_500, li_999, li_1003, li_3099, li_99999, li_100000, li_1000000, li_65, li_23, li_neg]
        rw [c7, Option.bind_some, if_neg n10, q2, Option.bind_some, if_pos rfl]
  · refine hbad ?_ ?_
    · unfold f_X6_feed
      simp only [li_0, li_1, li_2, li_3, li_4, li_5, li_6, li_7, li_8, li_9, li_10, li_11, li_12, li_13, li_14, li_15, li_16, li_17, li_18, li_19, li_20, li_30, li_31, li_32, li_33, li_40, li_41, li_42, li_43, li_45, li_48, li_56, li_57, li_59, li_60, li_61, li_64, li_91, li_97, li_99, li_100, li_122, li_150, li_160, li_200, li_201, li_255, li_300, li_303, li_304, li_305, li_306, li_312, li_400, li_500, li_999, li_1003, li_3099, li_99999, li_100000, li_1000000, li_65, li_23, li_neg]
      rw [q1]
    · unfold f_X7_feed
      simp only [li_0, li_1, li_2, li_3, li_4, li_5, li_6, li_7, li_8, li_9, li_10, li_11, li_12, li_13, li_14, li_15, li_16, li_17, li_18, li_19, li_20, li_30, li_31, li_32, li_33, li_40, li_41, li_42, li_43, li_45, li_48, li_56, li_57, li_59, li_60, li_61, li_64, li_91, li_97, li_99, li_100, li_122, li_150, li_160, li_200, li_201, li_255, li_300, li_303, li_304, li_305, li_306, li_312, li_400, li_500, li_999, li_1003, li_3099, li_99999, li_100000, li_1000000, li_65, li_23, li_neg]
      rw [q2, Option.bind_some, if_pos rfl]
