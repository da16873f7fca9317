/-! PURE: qp_feed, the reference's side when all is well -/
theorem rfeed {m : qaM} {B : Nat → Nat} {L n b2 b3 b4 b5 b6 : Nat} (h0 : m 36 9 = nI L) (hB : ∀ k : Nat, k < L → m 42 k = nI (B k)) (hn1 : 1 ≤ n) (hn : n ≤ 5) (hL : L ≤ 160) (hb2 : ∀ m2 : qaM, f_X7_isByte m2 (nI b2) = some (nI 1)) (hb3 : ∀ m2 : qaM, f_X7_isByte m2 (nI b3) = some (nI 1)) (hb4 : ∀ m2 : qaM, f_X7_isByte m2 (nI b4) = some (nI 1)) (hb5 : ∀ m2 : qaM, f_X7_isByte m2 (nI b5) = some (nI 1)) (hb6 : ∀ m2 : qaM, f_X7_isByte m2 (nI b6) = some (nI 1)) :
    if L + n ≤ 160 then ∃ x2, f_X7_feed m (nI n) (nI b2) (nI b3) (nI b4) (nI b5) (nI b6) = some (nI (L + n), x2) ∧ RF m x2 (fdB B L b2 b3 b4 b5 b6) L n else f_X7_feed m (nI n) (nI b2) (nI b3) (nI b4) (nI b5) (nI b6) = some (nM 4, m) := by
  have hst : f_X7_feed m (nI n) (nI b2) (nI b3) (nI b4) (nI b5) (nI b6) = (if nI (L + n) ≤ nI 160 then lp_X7_feed_68 m (nI n) (nI b2) (nI b3) (nI b4) (nI b5) (nI b6) (nI 0) else (some (nM 4, m))) := by
    unfold f_X7_feed
    simp only [li_0, li_1, li_2, li_3, li_4, li_5, li_6, li_7, li_8, li_9, li_10, li_11, li_12, li_13, li_14, li_15, li_16, li_17, li_18, li_19, li_20, li_30, li_31, li_32, li_33, li_40, li_41, li_42, li_43, li_45, li_48, li_56, li_57, li_59, li_60, li_61, li_64, li_91, li_97, li_99, li_100, li_122, li_150, li_160, li_200, li_201, li_255, li_300, li_303, li_304, li_305, li_306, li_312, li_400, li_500, li_999, li_1003, li_3099, li_99999, li_100000, li_1000000, li_65, li_23, li_neg]
    rw [r7in (by omega) (by omega) (by omega), if_pos ⟨hn1, hn⟩, Option.bind_some, if_neg n10, hb2, Option.bind_some, if_neg n10, hb3, Option.bind_some, if_neg n10, hb4, Option.bind_some, if_neg n10, hb5, Option.bind_some, if_neg n10, hb6, Option.bind_some, if_neg n10, h0, pu_add]
  rw [hst]
  by_cases z : L + n ≤ 160
  · rw [if_pos z, ic_le_t z (by omega), lp_X7_feed_68]
    obtain ⟨r, g1, x2, rfl, g3⟩ := lp_at (f := fun s : qaM × Int32 => b_X7_feed_68 s.1 (nI n) (nI b2) (nI b3) (nI b4) (nI b5) (nI b6) s.2) (fun j s => s.2 = nI j ∧ j ≤ n ∧ RF m s.1 (fdB B L b2 b3 b4 b5 b6) L j) (fun r => ∃ x2, r = (nI (L + n), x2) ∧ RF m x2 (fdB B L b2 b3 b4 b5 b6) L n) 5 (s := (m, nI 0)) ⟨rfl, Nat.zero_le _, qF.rf _ _, o36l.rf _ _, h0, fun k hk => by
      have : fdB B L b2 b3 b4 b5 b6 k = B k := if_pos (by omega)
      rw [this]
      exact hB k (by omega)⟩ (by omega) (by
      rintro j ⟨x, w⟩ hj ⟨a1, a2, a3⟩
      have a1b : w = nI j := a1
      subst a1b
      replace a3 : RF m x (fdB B L b2 b3 b4 b5 b6) L j := a3
      have h9 := a3.2.2.1
      rcases Nat.lt_or_ge j n with y | y
      · obtain ⟨x2, d1, d2⟩ := a3.add (by omega) (nI n) (nI b2) (nI b3) (nI b4) (nI b5) (nI b6)
        refine Or.inl ⟨(x2, nI (j + 1)), ?_, by omega, rfl, by omega, d2⟩
        show b_X7_feed_68 x (nI n) (nI b2) (nI b3) (nI b4) (nI b5) (nI b6) (nI j) = _
        unfold b_X7_feed_68
        simp only [li_0, li_1, li_2, li_3, li_4, li_5, li_6, li_7, li_8, li_9, li_10, li_11, li_12, li_13, li_14, li_15, li_16, li_17, li_18, li_19, li_20, li_30, li_31, li_32, li_33, li_40, li_41, li_42, li_43, li_45, li_48, li_56, li_57, li_59, li_60, li_61, li_64, li_91, li_97, li_99, li_100, li_122, li_150, li_160, li_200, li_201, li_255, li_300, li_303, li_304, li_305, li_306, li_312, li_400, li_500, li_999, li_1003, li_3099, li_99999, li_100000, li_1000000, li_65, li_23, li_neg]
        rw [ic_le_f y (by omega), h9]
        rw [← d1]
        unfold fdB
        have hc : j = 0 ∨ j = 1 ∨ j = 2 ∨ j = 3 ∨ j = 4 := by omega
        rcases hc with rfl | rfl | rfl | rfl | rfl
        · rw [if_pos rfl, if_neg (show ¬ L + 0 < L by omega), if_pos (show L + 0 = L by omega)]
        · rw [if_neg n10, if_pos rfl, if_neg (show ¬ L + 1 < L by omega), if_neg (show ¬ L + 1 = L by omega), if_pos rfl]
        · rw [ic_eq_f (by omega) (by omega) (by omega), ic_eq_f (by omega) (by omega) (by omega), if_pos rfl, if_neg (show ¬ L + 2 < L by omega), if_neg (show ¬ L + 2 = L by omega), if_neg (show ¬ L + 2 = L + 1 by omega), if_pos rfl]
        · rw [ic_eq_f (by omega) (by omega) (by omega), ic_eq_f (by omega) (by omega) (by omega), ic_eq_f (by omega) (by omega) (by omega), if_pos rfl, if_neg (show ¬ L + 3 < L by omega), if_neg (show ¬ L + 3 = L by omega), if_neg (show ¬ L + 3 = L + 1 by omega), if_neg (show ¬ L + 3 = L + 2 by omega), if_pos rfl]
        · rw [ic_eq_f (by omega) (by omega) (by omega), ic_eq_f (by omega) (by omega) (by omega), ic_eq_f (by omega) (by omega) (by omega), ic_eq_f (by omega) (by omega) (by omega), if_neg (show ¬ L + 4 < L by omega), if_neg (show ¬ L + 4 = L by omega), if_neg (show ¬ L + 4 = L + 1 by omega), if_neg (show ¬ L + 4 = L + 2 by omega), if_neg (show ¬ L + 4 = L + 3 by omega)]
      · have : j = n := by omega
        subst this
        refine Or.inr ⟨(nI (L + j), x), ?_, x, rfl, a3⟩
        show b_X7_feed_68 x (nI j) (nI b2) (nI b3) (nI b4) (nI b5) (nI b6) (nI j) = _
        unfold b_X7_feed_68
        simp only [li_0, li_1, li_2, li_3, li_4, li_5, li_6, li_7, li_8, li_9, li_10, li_11, li_12, li_13, li_14, li_15, li_16, li_17, li_18, li_19, li_20, li_30, li_31, li_32, li_33, li_40, li_41, li_42, li_43, li_45, li_48, li_56, li_57, li_59, li_60, li_61, li_64, li_91, li_97, li_99, li_100, li_122, li_150, li_160, li_200, li_201, li_255, li_300, li_303, li_304, li_305, li_306, li_312, li_400, li_500, li_999, li_1003, li_3099, li_99999, li_100000, li_1000000, li_65, li_23, li_neg]
        rw [ic_le_t (by omega) (by omega), h9]
        rfl)
    exact ⟨x2, g1, g3⟩
  · rw [if_neg z, ic_le_f (by omega) (by omega)]
