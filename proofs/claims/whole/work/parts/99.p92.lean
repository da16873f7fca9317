/-! PURE: qp_feed, the class's side when all is well -/
theorem kfeed {m : qaM} {B : Nat → Nat} {L n b2 b3 b4 b5 b6 : Nat} (h0 : m 6 0 = nI L) (hB : ∀ k : Nat, k < L → m 7 k = nI (B k)) (hn1 : 1 ≤ n) (hn : n ≤ 5) (hL : L ≤ 160) (hb2 : f_X6_isByte m (nI b2) = some (nI 1)) (hb3 : f_X6_isByte m (nI b3) = some (nI 1)) (hb4 : f_X6_isByte m (nI b4) = some (nI 1)) (hb5 : f_X6_isByte m (nI b5) = some (nI 1)) (hb6 : f_X6_isByte m (nI b6) = some (nI 1)) :
    if L + n ≤ 160 then ∃ x2, f_X6_feed m (nI n) (nI b2) (nI b3) (nI b4) (nI b5) (nI b6) = some (nI (L + n), x2) ∧ KF m x2 (fdB B L b2 b3 b4 b5 b6) L n else f_X6_feed m (nI n) (nI b2) (nI b3) (nI b4) (nI b5) (nI b6) = some (nM 4, m) := by
  have hst : f_X6_feed m (nI n) (nI b2) (nI b3) (nI b4) (nI b5) (nI b6) = (if nI n ≤ nI (160 - L) then (Option.bind (f_X4_adds m (nI b2)) (fun q6 => if nI n ≤ nI 1 then (b_X6_feed_90 q6 (nI n) (nI b4) (nI b5) (nI b6)) else (Option.bind (f_X4_adds q6 (nI b3)) (fun q10 => b_X6_feed_90 q10 (nI n) (nI b4) (nI b5) (nI b6))))) else (some (nM 4, m))) := by
    unfold f_X6_feed
    simp only [li_0, li_1, li_2, li_3, li_4, li_5, li_6, li_7, li_8, li_9, li_10, li_11, li_12, li_13, li_14, li_15, li_16, li_17, li_18, li_19, li_20, li_30, li_31, li_32, li_33, li_40, li_41, li_42, li_43, li_45, li_48, li_56, li_57, li_59, li_60, li_61, li_64, li_91, li_97, li_99, li_100, li_122, li_150, li_160, li_200, li_201, li_255, li_300, li_303, li_304, li_305, li_306, li_312, li_400, li_500, li_999, li_1003, li_3099, li_99999, li_100000, li_1000000, li_65, li_23, li_neg]
    rw [ic_lt_f hn1 (by omega), ic_lt_f hn (by omega), hb2, Option.bind_some, if_neg n10, hb3, Option.bind_some, if_neg n10, hb4, Option.bind_some, if_neg n10, hb5, Option.bind_some, if_neg n10, hb6, Option.bind_some, if_neg n10, h0, pu_sub hL]
  rw [hst]
  by_cases z : L + n ≤ 160
  · rw [if_pos z, ic_le_t (by omega) (by omega)]
    have e0 : fdB B L b2 b3 b4 b5 b6 (L + 0) = b2 := by
      unfold fdB
      rw [if_neg (by omega), if_pos (by omega)]
    have e1 : fdB B L b2 b3 b4 b5 b6 (L + 1) = b3 := by
      unfold fdB
      rw [if_neg (by omega), if_neg (by omega), if_pos (by omega)]
    have e2 : fdB B L b2 b3 b4 b5 b6 (L + 2) = b4 := by
      unfold fdB
      rw [if_neg (by omega), if_neg (by omega), if_neg (by omega), if_pos (by omega)]
    have e3 : fdB B L b2 b3 b4 b5 b6 (L + 3) = b5 := by
      unfold fdB
      rw [if_neg (by omega), if_neg (by omega), if_neg (by omega), if_neg (by omega), if_pos (by omega)]
    have e4 : fdB B L b2 b3 b4 b5 b6 (L + 4) = b6 := by
      unfold fdB
      rw [if_neg (by omega), if_neg (by omega), if_neg (by omega), if_neg (by omega), if_neg (by omega)]
    have k0 : KF m m (fdB B L b2 b3 b4 b5 b6) L 0 := ⟨qF.rf _ _, h0, fun k hk => by
      have : fdB B L b2 b3 b4 b5 b6 k = B k := if_pos (by omega)
      rw [this]
      exact hB k (by omega)⟩
    obtain ⟨x1, a1, a2⟩ := k0.add (by omega)
    rw [e0] at a1
    rw [a1, Option.bind_some]
    obtain ⟨x2, c1, c2⟩ := KF.stp (n := n) (t := 1) hn z (by omega) (by omega) (x := x1) (by
      by_cases y : n ≤ 1
      · rw [if_pos y, show n = 0 + 1 by omega]
        exact a2
      · rw [if_neg y]
        exact a2)
    obtain ⟨x3, d1, d2⟩ := KF.stp (n := n) (t := 2) hn z (by omega) (by omega) c2
    obtain ⟨x4, f1, f2⟩ := KF.stp (n := n) (t := 3) hn z (by omega) (by omega) d2
    obtain ⟨x5, g1, g2⟩ := KF.stp (n := n) (t := 4) hn z (by omega) (by omega) f2
    rw [e1] at c1
    rw [e2] at d1
    rw [e3] at f1
    rw [e4] at g1
    rw [if_pos (by omega)] at g2
    refine ⟨x5, ?_, g2⟩
    refine (c1 (fun q => b_X6_feed_90 q (nI n) (nI b4) (nI b5) (nI b6))).trans ?_
    unfold b_X6_feed_90
    simp only [li_0, li_1, li_2, li_3, li_4, li_5, li_6, li_7, li_8, li_9, li_10, li_11, li_12, li_13, li_14, li_15, li_16, li_17, li_18, li_19, li_20, li_30, li_31, li_32, li_33, li_40, li_41, li_42, li_43, li_45, li_48, li_56, li_57, li_59, li_60, li_61, li_64, li_91, li_97, li_99, li_100, li_122, li_150, li_160, li_200, li_201, li_255, li_300, li_303, li_304, li_305, li_306, li_312, li_400, li_500, li_999, li_1003, li_3099, li_99999, li_100000, li_1000000, li_65, li_23, li_neg]
    refine (d1 (fun q => b_X6_feed_104 q (nI n) (nI b5) (nI b6))).trans ?_
    unfold b_X6_feed_104
    simp only [li_0, li_1, li_2, li_3, li_4, li_5, li_6, li_7, li_8, li_9, li_10, li_11, li_12, li_13, li_14, li_15, li_16, li_17, li_18, li_19, li_20, li_30, li_31, li_32, li_33, li_40, li_41, li_42, li_43, li_45, li_48, li_56, li_57, li_59, li_60, li_61, li_64, li_91, li_97, li_99, li_100, li_122, li_150, li_160, li_200, li_201, li_255, li_300, li_303, li_304, li_305, li_306, li_312, li_400, li_500, li_999, li_1003, li_3099, li_99999, li_100000, li_1000000, li_65, li_23, li_neg]
    refine (f1 (fun q => b_X6_feed_118 q (nI n) (nI b6))).trans ?_
    unfold b_X6_feed_118
    simp only [li_0, li_1, li_2, li_3, li_4, li_5, li_6, li_7, li_8, li_9, li_10, li_11, li_12, li_13, li_14, li_15, li_16, li_17, li_18, li_19, li_20, li_30, li_31, li_32, li_33, li_40, li_41, li_42, li_43, li_45, li_48, li_56, li_57, li_59, li_60, li_61, li_64, li_91, li_97, li_99, li_100, li_122, li_150, li_160, li_200, li_201, li_255, li_300, li_303, li_304, li_305, li_306, li_312, li_400, li_500, li_999, li_1003, li_3099, li_99999, li_100000, li_1000000, li_65, li_23, li_neg]
    refine (g1 (fun q => b_X6_feed_132 q)).trans ?_
    unfold b_X6_feed_132
    rw [g2.2.1]
  · rw [if_neg z, ic_le_f (by omega) (by omega)]
