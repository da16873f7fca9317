/-! PURE: f_X6_text against f_X7_text, without the rest of the memory -/
theorem ktext {m mr : qaM} {B : Nat → Nat} {L N : Nat} (t : TPb m B L) (tr : TPR mr B L) (h52 : ∀ k : Nat, k < 96 → mr 52 k = nI (wtb.getD k 0)) (hm : m 1 0 = nI N) (h12 : mr 36 12 = nI N) (hN : N < 6) :
    (∃ x2 y2 p2 W2, f_X6_text m = some (nI N, qa_st (qa_st x2 6 0 (nI 0)) 1 0 (nI (N + 1))) ∧ f_X7_text mr = some (nI N, y2) ∧ TxC m x2 N W2 ∧ TxR mr y2 N W2 ∧ PTw L 3 p2 W2)
    ∨ (∃ x2 y2 P, P ≤ L ∧ f_X6_text m = some (nM 100 - nI P, qa_st x2 6 0 (nI 0)) ∧ f_X7_text mr = some (nM 100 - nI P, y2) ∧ C9 N m x2 ∧ Y9 N mr y2 N) := by
  have hL := t.2.2.1
  have c0 : C9 N m (qa_st (qa_st m 1 5 (nI 0)) 6 3 (nI 0)) := by
    refine ⟨((qF.rf _ _).stl (by simp)).stl (by simp), ?_, ?_, ?_, ?_⟩
    · rw [st_s, up_n (by omega), st_n (by omega)]
    · intro k hk
      rw [st_n (by omega), st_s, up_n hk]
    · intro k hk
      rw [st_n (by omega), st_n (by omega)]
    · intro k hk
      rw [st_n (by omega), st_n (by omega)]
  have h3 : (qa_st (qa_st m 1 5 (nI 0)) 6 3 (nI 0)) 6 3 = nI 0 := by rw [st_s, up_s]
  have h5 : (qa_st (qa_st m 1 5 (nI 0)) 6 3 (nI 0)) 1 5 = nI 0 := by rw [st_n (by omega), st_s, up_s]
  obtain ⟨x1, a1, a2, a3, a4, a5, a6⟩ := kgo (t.c9 c0) (Nat.zero_le L) h3
  have c1 : C9 N m x1 := c0.c6 ((C6.rf N _).k6 a2)
  have pc : PTc m x1 B L N 0 0 (fun _ => []) := ⟨c1, ⟨a3, a4, a5, a6⟩, ⟨by rw [a2.1 1 (by decide)]; exact h5, fun i hi => absurd hi (Nat.not_lt_zero _)⟩, fun j hj => absurd hj (Nat.not_lt_zero _)⟩
  have r0 : R9 N mr (qa_st (qa_st mr 36 26 (nI 0)) 36 34 (nI 0)) := ((R9.rf N mr).st36 (by omega)).st36 (by omega)
  have pr : PTr mr (qa_st (qa_st mr 36 26 (nI 0)) 36 34 (nI 0)) N 0 0 (fun _ => []) := ⟨r0, by rw [st_s, up_n (by omega), st_s, up_s], by rw [st_s, up_s]; rfl, fun i hi => absurd hi (Nat.not_lt_zero _), fun j hj => absurd hj (Nat.not_lt_zero _)⟩
  have pw : PTw L 0 0 (fun _ => []) := ⟨Nat.zero_le _, Nat.le_refl _, fun j hj => absurd hj (Nat.not_lt_zero _)⟩
  have hri : ∀ r : Int32 × qaM, qa_lp (fun s : qaM × Int32 => b_X4_readsInto_11 s.1 s.2) qa_F (x1, nI 0) = some r → f_X4_readsInto (qa_st m 1 5 (nI 0)) = some r := by
    intro r hr
    unfold f_X4_readsInto
    simp only [li_0, li_1, li_2, li_3, li_4, li_5, li_6, li_7, li_8, li_9, li_10, li_11, li_12, li_13, li_14, li_15, li_16, li_17, li_18, li_19, li_20, li_30, li_31, li_32, li_33, li_40, li_41, li_42, li_43, li_45, li_48, li_56, li_57, li_59, li_60, li_61, li_64, li_91, li_97, li_99, li_100, li_122, li_150, li_160, li_200, li_201, li_255, li_300, li_303, li_304, li_305, li_306, li_312, li_400, li_500, li_999, li_1003, li_3099, li_99999, li_100000, li_1000000, li_65, li_23, li_neg]
    rw [pu_let, a1, Option.bind_some, lp_X4_readsInto_11]
    exact hr
  have h7 : ∀ r : Int32 × qaM, qa_lp (fun s : qaM × Int32 × Int32 => b_X7_text_26 s.1 s.2.1 s.2.2) qa_F (qa_st (qa_st mr 36 26 (nI 0)) 36 34 (nI 0), nI 1, nI 0) = some r → f_X7_text mr = some r := by
    intro r hr
    unfold f_X7_text
    simp only [li_0, li_1, li_2, li_3, li_4, li_5, li_6, li_7, li_8, li_9, li_10, li_11, li_12, li_13, li_14, li_15, li_16, li_17, li_18, li_19, li_20, li_30, li_31, li_32, li_33, li_40, li_41, li_42, li_43, li_45, li_48, li_56, li_57, li_59, li_60, li_61, li_64, li_91, li_97, li_99, li_100, li_122, li_150, li_160, li_200, li_201, li_255, li_300, li_303, li_304, li_305, li_306, li_312, li_400, li_500, li_999, li_1003, li_3099, li_99999, li_100000, li_1000000, li_65, li_23, li_neg]
    rw [h12, ic_eq_f (by omega) (by omega) (by omega), pu_let, pu_let, lp_X7_text_26]
    exact hr
  have hbt : f_X5_beginsText m = some (qa_st m 1 5 (nI 0)) := by
    unfold f_X5_beginsText
    simp only [li_0, li_1, li_2, li_3, li_4, li_5, li_6, li_7, li_8, li_9, li_10, li_11, li_12, li_13, li_14, li_15, li_16, li_17, li_18, li_19, li_20, li_30, li_31, li_32, li_33, li_40, li_41, li_42, li_43, li_45, li_48, li_56, li_57, li_59, li_60, li_61, li_64, li_91, li_97, li_99, li_100, li_122, li_150, li_160, li_200, li_201, li_255, li_300, li_303, li_304, li_305, li_306, li_312, li_400, li_500, li_999, li_1003, li_3099, li_99999, li_100000, li_1000000, li_65, li_23, li_neg]
    rw [pu_let]
  rcases kparts t tr h52 hm h12 hN 3 0 qa_F qa_F 0 x1 _ _ rfl (by unfold qa_F; omega) (by unfold qa_F; omega) pc pr pw with ⟨x2, y2, p2, W2, k1, k2, k3, k4, k5⟩ | ⟨x2, y2, P, k0, k1, k2, k3, k4⟩
  · refine Or.inl ⟨x2, y2, p2, W2, ?_, h7 _ k2, k3, k4, k5⟩
    have x10 : (qa_st x2 6 0 (nI 0)) 1 0 = nI N := by rw [st_n (by omega), k3.1.2.2.1 0 (by omega), hm]
    have x11 : (qa_st (qa_st x2 6 0 (nI 0)) 1 0 (nI (N + 1))) 1 0 = nI (N + 1) := by rw [st_s, up_s]
    unfold f_X6_text
    simp only [li_0, li_1, li_2, li_3, li_4, li_5, li_6, li_7, li_8, li_9, li_10, li_11, li_12, li_13, li_14, li_15, li_16, li_17, li_18, li_19, li_20, li_30, li_31, li_32, li_33, li_40, li_41, li_42, li_43, li_45, li_48, li_56, li_57, li_59, li_60, li_61, li_64, li_91, li_97, li_99, li_100, li_122, li_150, li_160, li_200, li_201, li_255, li_300, li_303, li_304, li_305, li_306, li_312, li_400, li_500, li_999, li_1003, li_3099, li_99999, li_100000, li_1000000, li_65, li_23, li_neg]
    rw [hm, ic_lt_t hN (by omega), hbt, Option.bind_some, hri _ k1, Option.bind_some, pu_let, if_pos rfl]
    unfold f_X5_keepsText
    simp only [li_0, li_1, li_2, li_3, li_4, li_5, li_6, li_7, li_8, li_9, li_10, li_11, li_12, li_13, li_14, li_15, li_16, li_17, li_18, li_19, li_20, li_30, li_31, li_32, li_33, li_40, li_41, li_42, li_43, li_45, li_48, li_56, li_57, li_59, li_60, li_61, li_64, li_91, li_97, li_99, li_100, li_122, li_150, li_160, li_200, li_201, li_255, li_300, li_303, li_304, li_305, li_306, li_312, li_400, li_500, li_999, li_1003, li_3099, li_99999, li_100000, li_1000000, li_65, li_23, li_neg]
    rw [x10, pu_add, pu_let, x11, pu_sub (by omega)]
    rfl
  · refine Or.inr ⟨x2, y2, P, k0, ?_, h7 _ k2, k3, k4⟩
    unfold f_X6_text
    simp only [li_0, li_1, li_2, li_3, li_4, li_5, li_6, li_7, li_8, li_9, li_10, li_11, li_12, li_13, li_14, li_15, li_16, li_17, li_18, li_19, li_20, li_30, li_31, li_32, li_33, li_40, li_41, li_42, li_43, li_45, li_48, li_56, li_57, li_59, li_60, li_61, li_64, li_91, li_97, li_99, li_100, li_122, li_150, li_160, li_200, li_201, li_255, li_300, li_303, li_304, li_305, li_306, li_312, li_400, li_500, li_999, li_1003, li_3099, li_99999, li_100000, li_1000000, li_65, li_23, li_neg]
    rw [hm, ic_lt_t hN (by omega), hbt, Option.bind_some, hri _ k1, Option.bind_some, pu_let, ic_im (by omega) (by omega) (by omega)]
