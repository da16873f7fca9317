/-! PURE: what a text says (2) -/
theorem k7step {x : qaM} {l p h h2 E k c : Nat} {f : Nat → Int32} {s : Nat → Int32} (hl : l < 6) (hp : p < 3) (hk : k < E) (hE : E ≤ 160) (h13 : x 36 13 = nI l) (h44 : x 44 (4 * l + p + 1) = nI E) (hc : x 43 (200 * l + k) = nI c) (hst : stC c) (hh : htS c h = some h2) (hle : h ≤ k) (hf : ∀ a : Nat, a < 6 → x 55 a = f a) (ks : stK x 54 (h, s)) :
    ∃ x2, b_X7_says_16 x (nI p) (nI h) (nI k) = some (.inl (x2, nI h2, nI (k + 1))) ∧ stK x2 54 (evS f c (h, s)) ∧ qF [54] x x2 := by
  have hhv := evS_h (f := f) (s := s) hh
  have htop : 1 ≤ h → x 54 (h - 1) = s (h - 1) := fun h1 => ks (h - 1) (by show h - 1 < h; omega)
  have htop2 : 2 ≤ h → x 54 (h - 2) = s (h - 2) := fun h1 => ks (h - 2) (by show h - 2 < h; omega)
  have hpush : ∀ v : Int32, h2 = h + 1 → evS f c (h, s) = (h + 1, upd s h v) → b_X7_says_93 x (nI p) (nI h) (nI k) (nI h) v = some (.inl (qa_st x 54 h v, nI h2, nI (k + 1))) ∧ stK (qa_st x 54 h v) 54 (evS f c (h, s)) ∧ qF [54] x (qa_st x 54 h v) := by
    intro v e1 e2
    refine ⟨?_, ?_, qF.st _ _ _ _⟩
    · rw [e1]
      ((try simp only [b_X7_says_93, b_X7_says_191, li_0, li_1, li_2, li_3, li_4, li_5, li_6, li_7, li_8, li_9, li_10, li_11, li_12, li_13, li_14, li_15, li_16, li_17, li_18, li_19, li_20, li_30, li_31, li_32, li_33, li_40, li_41, li_42, li_43, li_45, li_48, li_56, li_57, li_59, li_60, li_61, li_64, li_91, li_97, li_99, li_100, li_122, li_150, li_160, li_200, li_201, li_255, li_300, li_303, li_304, li_305, li_306, li_312, li_400, li_500, li_999, li_1003, li_3099, li_99999, li_100000, li_1000000, li_65, li_23, li_neg]); (try simp (disch := omega) only [b_X7_says_93, b_X7_says_191, ic_le_f, ic_le_t, ic_lt_f, ic_lt_t, ic_eq_f, ic_eq_t, ic_im, ic_mi, ic_mm_t, ic_mm_f, ic_mlt, ic_mle, ic_ilem, ic_iltm, ic_mmle_t, ic_mmle_f, pu_add, pu_mul, pu_in, pu_ck, pu_let, pu_cl, pu_cpok, pu_inr, Option.bind_some, ite_true, ite_false, pu_dm, pu_dv, pu_sub, nt_dm, if_true, if_false]))
    · rw [e2]
      exact ks.up (Or.inr ⟨rfl, rfl⟩)
  have hin : ∀ R : Option ((qaM × Int32 × Int32) ⊕ (Int32 × qaM)), (∀ R2, R2 = R → (if nI 100000 ≤ nI c then (b_X7_says_66 x (nI p) (nI h) (nI k) (nI c)) else (if nI 11 ≤ nI c then (if nI c = nI 13 then (qa_ck (qa_in (nI h - nI 1) 200) (if (x 54 (nI h - nI 1).toNatClampNeg) = nI 0 then (b_X7_says_130 x (nI p) (nI h) (nI k) (nI h - nI 1) (nI 1)) else (b_X7_says_130 x (nI p) (nI h) (nI k) (nI h - nI 1) (nI 0)))) else (if nI c = nI 19 then (qa_ck (qa_in (nI h - nI 1) 200) (qa_ck (qa_in (nI h - nI 1) 200) (qa_lt (qa_st x 54 (nI h - nI 1).toNatClampNeg (-(x 54 (nI h - nI 1).toNatClampNeg))) (fun m19 => b_X7_says_191 m19 (nI p) (nI h) (nI k))))) else (qa_lt (nI h + nM 1) (fun x11 => qa_ck (qa_in (x11 - nI 1) 200) (qa_ck (qa_in x11 200) (Option.bind (f_X7_two x (nI c) (x 54 (x11 - nI 1).toNatClampNeg) (x 54 x11.toNatClampNeg)) (fun q14 => qa_ck (qa_in (x11 - nI 1) 200) (qa_lt (qa_st x 54 (x11 - nI 1).toNatClampNeg q14) (fun m16 => b_X7_says_191 m16 (nI p) x11 (nI k)))))))))) else (b_X7_says_66 x (nI p) (nI h) (nI k) (nI c)))) = R2) → b_X7_says_16 x (nI p) (nI h) (nI k) = R := by
    intro R hR
    rw [← hR R rfl]
    unfold b_X7_says_16
    simp only [li_0, li_1, li_2, li_3, li_4, li_5, li_6, li_7, li_8, li_9, li_10, li_11, li_12, li_13, li_14, li_15, li_16, li_17, li_18, li_19, li_20, li_30, li_31, li_32, li_33, li_40, li_41, li_42, li_43, li_45, li_48, li_56, li_57, li_59, li_60, li_61, li_64, li_91, li_97, li_99, li_100, li_122, li_150, li_160, li_200, li_201, li_255, li_300, li_303, li_304, li_305, li_306, li_312, li_400, li_500, li_999, li_1003, li_3099, li_99999, li_100000, li_1000000, li_65, li_23, li_neg]
    rw [h13, pu_mul, pu_add, pu_add, pu_in (by omega) (by omega), pu_ck, pu_cl (by omega), h44, ic_le_f hk (by omega), pu_mul, pu_add, pu_in (by omega) (by omega), pu_ck, pu_cl (by omega), hc, pu_let]
  rcases hst with ⟨c1, c2⟩ | c1 | ⟨c1, c2⟩
  · have e2 : evS f c (h, s) = (h + 1, upd s h (nI (c - 100000))) := if_pos c1
    have e1 : h2 = h + 1 := by rw [← hhv, e2]
    obtain ⟨g1, g2, g3⟩ := hpush _ e1 e2
    refine ⟨_, hin _ (fun R2 hR2 => ?_), g2, g3⟩
    rw [hR2, if_pos (nI_le c1 (by omega))]
    unfold b_X7_says_66
    simp only [li_0, li_1, li_2, li_3, li_4, li_5, li_6, li_7, li_8, li_9, li_10, li_11, li_12, li_13, li_14, li_15, li_16, li_17, li_18, li_19, li_20, li_30, li_31, li_32, li_33, li_40, li_41, li_42, li_43, li_45, li_48, li_56, li_57, li_59, li_60, li_61, li_64, li_91, li_97, li_99, li_100, li_122, li_150, li_160, li_200, li_201, li_255, li_300, li_303, li_304, li_305, li_306, li_312, li_400, li_500, li_999, li_1003, li_3099, li_99999, li_100000, li_1000000, li_65, li_23, li_neg]
    rw [ic_le_t (by omega) (by omega), pu_sub c1, g1]
  · have e2 : evS f c (h, s) = (h + 1, upd s h (f c)) := by
      unfold evS
      rw [if_neg (by omega), if_pos (by omega)]
    have e1 : h2 = h + 1 := by rw [← hhv, e2]
    obtain ⟨g1, g2, g3⟩ := hpush _ e1 e2
    refine ⟨_, hin _ (fun R2 hR2 => ?_), g2, g3⟩
    rw [hR2, ic_le_f (by omega) (by omega), ic_le_f (by omega) (by omega)]
    unfold b_X7_says_66
    simp only [li_0, li_1, li_2, li_3, li_4, li_5, li_6, li_7, li_8, li_9, li_10, li_11, li_12, li_13, li_14, li_15, li_16, li_17, li_18, li_19, li_20, li_30, li_31, li_32, li_33, li_40, li_41, li_42, li_43, li_45, li_48, li_56, li_57, li_59, li_60, li_61, li_64, li_91, li_97, li_99, li_100, li_122, li_150, li_160, li_200, li_201, li_255, li_300, li_303, li_304, li_305, li_306, li_312, li_400, li_500, li_999, li_1003, li_3099, li_99999, li_100000, li_1000000, li_65, li_23, li_neg]
    rw [ic_le_f (by omega) (by omega), pu_in (by omega) (by omega), pu_ck, pu_cl (by omega), hf c c1, g1]
  · have h1b : c = 13 ∨ c = 19 → 1 ≤ h ∧ h2 = h := by
      intro d
      unfold htS at hh
      rw [if_neg (by omega), if_pos d] at hh
      by_cases z : 1 ≤ h
      · rw [if_pos z] at hh
        exact ⟨z, (Option.some.inj hh).symm⟩
      · rw [if_neg z] at hh
        cases hh
    by_cases d13 : c = 13
    · obtain ⟨d1, d2⟩ := h1b (Or.inl d13)
      have e2 : evS f c (h, s) = (h, upd s (h - 1) (if s (h - 1) = nI 0 then nI 1 else nI 0)) := by
        rw [d13]
        rfl
      refine ⟨qa_st x 54 (h - 1) (if s (h - 1) = nI 0 then nI 1 else nI 0), hin _ (fun R2 hR2 => ?_), by rw [e2]; exact ks.up (Or.inl (Nat.le_refl _)), qF.st _ _ _ _⟩
      rw [hR2, ic_le_f (by omega) (by omega), ic_le_t (by omega) (by omega), d13, if_pos rfl, pu_sub d1, pu_in (by omega) (by omega), pu_ck, pu_cl (by omega), htop d1, d2]
      by_cases z : s (h - 1) = nI 0
      · rw [if_pos z, if_pos z]
        ((try simp only [b_X7_says_130, b_X7_says_191, li_0, li_1, li_2, li_3, li_4, li_5, li_6, li_7, li_8, li_9, li_10, li_11, li_12, li_13, li_14, li_15, li_16, li_17, li_18, li_19, li_20, li_30, li_31, li_32, li_33, li_40, li_41, li_42, li_43, li_45, li_48, li_56, li_57, li_59, li_60, li_61, li_64, li_91, li_97, li_99, li_100, li_122, li_150, li_160, li_200, li_201, li_255, li_300, li_303, li_304, li_305, li_306, li_312, li_400, li_500, li_999, li_1003, li_3099, li_99999, li_100000, li_1000000, li_65, li_23, li_neg]); (try simp (disch := omega) only [b_X7_says_130, b_X7_says_191, ic_le_f, ic_le_t, ic_lt_f, ic_lt_t, ic_eq_f, ic_eq_t, ic_im, ic_mi, ic_mm_t, ic_mm_f, ic_mlt, ic_mle, ic_ilem, ic_iltm, ic_mmle_t, ic_mmle_f, pu_add, pu_mul, pu_in, pu_ck, pu_let, pu_cl, pu_cpok, pu_inr, Option.bind_some, ite_true, ite_false, pu_dm, pu_dv, pu_sub, nt_dm, if_true, if_false]))
      · rw [if_neg z, if_neg z]
        ((try simp only [b_X7_says_130, b_X7_says_191, li_0, li_1, li_2, li_3, li_4, li_5, li_6, li_7, li_8, li_9, li_10, li_11, li_12, li_13, li_14, li_15, li_16, li_17, li_18, li_19, li_20, li_30, li_31, li_32, li_33, li_40, li_41, li_42, li_43, li_45, li_48, li_56, li_57, li_59, li_60, li_61, li_64, li_91, li_97, li_99, li_100, li_122, li_150, li_160, li_200, li_201, li_255, li_300, li_303, li_304, li_305, li_306, li_312, li_400, li_500, li_999, li_1003, li_3099, li_99999, li_100000, li_1000000, li_65, li_23, li_neg]); (try simp (disch := omega) only [b_X7_says_130, b_X7_says_191, ic_le_f, ic_le_t, ic_lt_f, ic_lt_t, ic_eq_f, ic_eq_t, ic_im, ic_mi, ic_mm_t, ic_mm_f, ic_mlt, ic_mle, ic_ilem, ic_iltm, ic_mmle_t, ic_mmle_f, pu_add, pu_mul, pu_in, pu_ck, pu_let, pu_cl, pu_cpok, pu_inr, Option.bind_some, ite_true, ite_false, pu_dm, pu_dv, pu_sub, nt_dm, if_true, if_false]))
    by_cases d19 : c = 19
    · obtain ⟨d1, d2⟩ := h1b (Or.inr d19)
      have e2 : evS f c (h, s) = (h, upd s (h - 1) (-(s (h - 1)))) := by
        rw [d19]
        rfl
      refine ⟨qa_st x 54 (h - 1) (-(s (h - 1))), hin _ (fun R2 hR2 => ?_), by rw [e2]; exact ks.up (Or.inl (Nat.le_refl _)), qF.st _ _ _ _⟩
      rw [hR2, ic_le_f (by omega) (by omega), ic_le_t (by omega) (by omega), ic_eq_f d13 (by omega) (by omega), d19, if_pos rfl, pu_sub d1, pu_in (by omega) (by omega), pu_ck, pu_ck, pu_cl (by omega), htop d1, d2, pu_let]
      unfold b_X7_says_191
      simp only [li_0, li_1, li_2, li_3, li_4, li_5, li_6, li_7, li_8, li_9, li_10, li_11, li_12, li_13, li_14, li_15, li_16, li_17, li_18, li_19, li_20, li_30, li_31, li_32, li_33, li_40, li_41, li_42, li_43, li_45, li_48, li_56, li_57, li_59, li_60, li_61, li_64, li_91, li_97, li_99, li_100, li_122, li_150, li_160, li_200, li_201, li_255, li_300, li_303, li_304, li_305, li_306, li_312, li_400, li_500, li_999, li_1003, li_3099, li_99999, li_100000, li_1000000, li_65, li_23, li_neg]
      rw [pu_add, pu_let]
    have e2 : evS f c (h, s) = (h - 1, upd s (h - 2) (opV c (s (h - 2)) (s (h - 1)))) := by
      unfold evS
      rw [if_neg (by omega), if_neg (by omega), if_neg d13, if_neg d19]
    have e1 : h2 = h - 1 := by rw [← hhv, e2]
    have d1 : 2 ≤ h := by
      unfold htS at hh
      rw [if_neg (by omega), if_neg (by omega)] at hh
      by_cases z : 2 ≤ h
      · exact z
      · rw [if_neg z] at hh
        cases hh
    have htwo : ∀ a b : Int32, f_X7_two x (nI c) a b = some (opV c a b) := by
      intro a b
      have hcs : c = 11 ∨ c = 12 ∨ c = 14 ∨ c = 15 ∨ c = 16 ∨ c = 17 ∨ c = 18 := by omega
      rcases hcs with rfl | rfl | rfl | rfl | rfl | rfl | rfl
      · ((try simp only [f_X7_two, b_X7_two_52, li_0, li_1, li_2, li_3, li_4, li_5, li_6, li_7, li_8, li_9, li_10, li_11, li_12, li_13, li_14, li_15, li_16, li_17, li_18, li_19, li_20, li_30, li_31, li_32, li_33, li_40, li_41, li_42, li_43, li_45, li_48, li_56, li_57, li_59, li_60, li_61, li_64, li_91, li_97, li_99, li_100, li_122, li_150, li_160, li_200, li_201, li_255, li_300, li_303, li_304, li_305, li_306, li_312, li_400, li_500, li_999, li_1003, li_3099, li_99999, li_100000, li_1000000, li_65, li_23, li_neg]); (try simp (disch := omega) only [f_X7_two, b_X7_two_52, ic_le_f, ic_le_t, ic_lt_f, ic_lt_t, ic_eq_f, ic_eq_t, ic_im, ic_mi, ic_mm_t, ic_mm_f, ic_mlt, ic_mle, ic_ilem, ic_iltm, ic_mmle_t, ic_mmle_f, pu_add, pu_mul, pu_in, pu_ck, pu_let, pu_cl, pu_cpok, pu_inr, Option.bind_some, ite_true, ite_false, pu_dm, pu_dv, pu_sub, nt_dm, if_true, if_false]))
        have e : opV 11 a b = (if a = nI 0 then (if b = nI 0 then nI 0 else nI 1) else nI 1) := rfl
        rw [e]
        repeat' split
        all_goals first | rfl | contradiction | omega
      · ((try simp only [f_X7_two, b_X7_two_52, li_0, li_1, li_2, li_3, li_4, li_5, li_6, li_7, li_8, li_9, li_10, li_11, li_12, li_13, li_14, li_15, li_16, li_17, li_18, li_19, li_20, li_30, li_31, li_32, li_33, li_40, li_41, li_42, li_43, li_45, li_48, li_56, li_57, li_59, li_60, li_61, li_64, li_91, li_97, li_99, li_100, li_122, li_150, li_160, li_200, li_201, li_255, li_300, li_303, li_304, li_305, li_306, li_312, li_400, li_500, li_999, li_1003, li_3099, li_99999, li_100000, li_1000000, li_65, li_23, li_neg]); (try simp (disch := omega) only [f_X7_two, b_X7_two_52, ic_le_f, ic_le_t, ic_lt_f, ic_lt_t, ic_eq_f, ic_eq_t, ic_im, ic_mi, ic_mm_t, ic_mm_f, ic_mlt, ic_mle, ic_ilem, ic_iltm, ic_mmle_t, ic_mmle_f, pu_add, pu_mul, pu_in, pu_ck, pu_let, pu_cl, pu_cpok, pu_inr, Option.bind_some, ite_true, ite_false, pu_dm, pu_dv, pu_sub, nt_dm, if_true, if_false]))
        have e : opV 12 a b = (if a = nI 0 then nI 0 else if b = nI 0 then nI 0 else nI 1) := rfl
        rw [e]
        repeat' split
        all_goals first | rfl | contradiction | omega
      · ((try simp only [f_X7_two, b_X7_two_52, li_0, li_1, li_2, li_3, li_4, li_5, li_6, li_7, li_8, li_9, li_10, li_11, li_12, li_13, li_14, li_15, li_16, li_17, li_18, li_19, li_20, li_30, li_31, li_32, li_33, li_40, li_41, li_42, li_43, li_45, li_48, li_56, li_57, li_59, li_60, li_61, li_64, li_91, li_97, li_99, li_100, li_122, li_150, li_160, li_200, li_201, li_255, li_300, li_303, li_304, li_305, li_306, li_312, li_400, li_500, li_999, li_1003, li_3099, li_99999, li_100000, li_1000000, li_65, li_23, li_neg]); (try simp (disch := omega) only [f_X7_two, b_X7_two_52, ic_le_f, ic_le_t, ic_lt_f, ic_lt_t, ic_eq_f, ic_eq_t, ic_im, ic_mi, ic_mm_t, ic_mm_f, ic_mlt, ic_mle, ic_ilem, ic_iltm, ic_mmle_t, ic_mmle_f, pu_add, pu_mul, pu_in, pu_ck, pu_let, pu_cl, pu_cpok, pu_inr, Option.bind_some, ite_true, ite_false, pu_dm, pu_dv, pu_sub, nt_dm, if_true, if_false]))
        have e : opV 14 a b = (if b ≤ a then nI 0 else nI 1) := rfl
        rw [e]
        repeat' split
        all_goals first | rfl | contradiction | omega
      · ((try simp only [f_X7_two, b_X7_two_52, li_0, li_1, li_2, li_3, li_4, li_5, li_6, li_7, li_8, li_9, li_10, li_11, li_12, li_13, li_14, li_15, li_16, li_17, li_18, li_19, li_20, li_30, li_31, li_32, li_33, li_40, li_41, li_42, li_43, li_45, li_48, li_56, li_57, li_59, li_60, li_61, li_64, li_91, li_97, li_99, li_100, li_122, li_150, li_160, li_200, li_201, li_255, li_300, li_303, li_304, li_305, li_306, li_312, li_400, li_500, li_999, li_1003, li_3099, li_99999, li_100000, li_1000000, li_65, li_23, li_neg]); (try simp (disch := omega) only [f_X7_two, b_X7_two_52, ic_le_f, ic_le_t, ic_lt_f, ic_lt_t, ic_eq_f, ic_eq_t, ic_im, ic_mi, ic_mm_t, ic_mm_f, ic_mlt, ic_mle, ic_ilem, ic_iltm, ic_mmle_t, ic_mmle_f, pu_add, pu_mul, pu_in, pu_ck, pu_let, pu_cl, pu_cpok, pu_inr, Option.bind_some, ite_true, ite_false, pu_dm, pu_dv, pu_sub, nt_dm, if_true, if_false]))
        have e : opV 15 a b = (if a = b then nI 1 else nI 0) := rfl
        rw [e]
        repeat' split
        all_goals first | rfl | contradiction | omega
      · ((try simp only [f_X7_two, b_X7_two_52, li_0, li_1, li_2, li_3, li_4, li_5, li_6, li_7, li_8, li_9, li_10, li_11, li_12, li_13, li_14, li_15, li_16, li_17, li_18, li_19, li_20, li_30, li_31, li_32, li_33, li_40, li_41, li_42, li_43, li_45, li_48, li_56, li_57, li_59, li_60, li_61, li_64, li_91, li_97, li_99, li_100, li_122, li_150, li_160, li_200, li_201, li_255, li_300, li_303, li_304, li_305, li_306, li_312, li_400, li_500, li_999, li_1003, li_3099, li_99999, li_100000, li_1000000, li_65, li_23, li_neg]); (try simp (disch := omega) only [f_X7_two, b_X7_two_52, ic_le_f, ic_le_t, ic_lt_f, ic_lt_t, ic_eq_f, ic_eq_t, ic_im, ic_mi, ic_mm_t, ic_mm_f, ic_mlt, ic_mle, ic_ilem, ic_iltm, ic_mmle_t, ic_mmle_f, pu_add, pu_mul, pu_in, pu_ck, pu_let, pu_cl, pu_cpok, pu_inr, Option.bind_some, ite_true, ite_false, pu_dm, pu_dv, pu_sub, nt_dm, if_true, if_false]))
        rfl
      · ((try simp only [f_X7_two, b_X7_two_52, li_0, li_1, li_2, li_3, li_4, li_5, li_6, li_7, li_8, li_9, li_10, li_11, li_12, li_13, li_14, li_15, li_16, li_17, li_18, li_19, li_20, li_30, li_31, li_32, li_33, li_40, li_41, li_42, li_43, li_45, li_48, li_56, li_57, li_59, li_60, li_61, li_64, li_91, li_97, li_99, li_100, li_122, li_150, li_160, li_200, li_201, li_255, li_300, li_303, li_304, li_305, li_306, li_312, li_400, li_500, li_999, li_1003, li_3099, li_99999, li_100000, li_1000000, li_65, li_23, li_neg]); (try simp (disch := omega) only [f_X7_two, b_X7_two_52, ic_le_f, ic_le_t, ic_lt_f, ic_lt_t, ic_eq_f, ic_eq_t, ic_im, ic_mi, ic_mm_t, ic_mm_f, ic_mlt, ic_mle, ic_ilem, ic_iltm, ic_mmle_t, ic_mmle_f, pu_add, pu_mul, pu_in, pu_ck, pu_let, pu_cl, pu_cpok, pu_inr, Option.bind_some, ite_true, ite_false, pu_dm, pu_dv, pu_sub, nt_dm, if_true, if_false]))
        rfl
      · ((try simp only [f_X7_two, b_X7_two_102, li_0, li_1, li_2, li_3, li_4, li_5, li_6, li_7, li_8, li_9, li_10, li_11, li_12, li_13, li_14, li_15, li_16, li_17, li_18, li_19, li_20, li_30, li_31, li_32, li_33, li_40, li_41, li_42, li_43, li_45, li_48, li_56, li_57, li_59, li_60, li_61, li_64, li_91, li_97, li_99, li_100, li_122, li_150, li_160, li_200, li_201, li_255, li_300, li_303, li_304, li_305, li_306, li_312, li_400, li_500, li_999, li_1003, li_3099, li_99999, li_100000, li_1000000, li_65, li_23, li_neg]); (try simp (disch := omega) only [f_X7_two, b_X7_two_102, ic_le_f, ic_le_t, ic_lt_f, ic_lt_t, ic_eq_f, ic_eq_t, ic_im, ic_mi, ic_mm_t, ic_mm_f, ic_mlt, ic_mle, ic_ilem, ic_iltm, ic_mmle_t, ic_mmle_f, pu_add, pu_mul, pu_in, pu_ck, pu_let, pu_cl, pu_cpok, pu_inr, Option.bind_some, ite_true, ite_false, pu_dm, pu_dv, pu_sub, nt_dm, if_true, if_false]))
        rfl
    refine ⟨qa_st x 54 (h - 2) (opV c (s (h - 2)) (s (h - 1))), hin _ (fun R2 hR2 => ?_), by rw [e2]; exact ks.up (Or.inl (by omega)), qF.st _ _ _ _⟩
    have hm1 : nI h + nM 1 = nI (h - 1) := by
      obtain ⟨h3, rfl⟩ : ∃ h3, h = h3 + 1 := ⟨h - 1, by omega⟩
      rw [plI_p, plI_s]
      rfl
    rw [hR2, ic_le_f (by omega) (by omega), ic_le_t (by omega) (by omega), ic_eq_f d13 (by omega) (by omega), ic_eq_f d19 (by omega) (by omega), hm1, pu_let, pu_sub (by omega), show h - 1 - 1 = h - 2 by omega, pu_in (by omega) (by omega), pu_ck, pu_in (by omega) (by omega), pu_ck, pu_cl (by omega), pu_cl (by omega), htop2 d1, htop (by omega), htwo, Option.bind_some, pu_ck, pu_let, e1]
    unfold b_X7_says_191
    simp only [li_0, li_1, li_2, li_3, li_4, li_5, li_6, li_7, li_8, li_9, li_10, li_11, li_12, li_13, li_14, li_15, li_16, li_17, li_18, li_19, li_20, li_30, li_31, li_32, li_33, li_40, li_41, li_42, li_43, li_45, li_48, li_56, li_57, li_59, li_60, li_61, li_64, li_91, li_97, li_99, li_100, li_122, li_150, li_160, li_200, li_201, li_255, li_300, li_303, li_304, li_305, li_306, li_312, li_400, li_500, li_999, li_1003, li_3099, li_99999, li_100000, li_1000000, li_65, li_23, li_neg]
    rw [pu_add, pu_let]
theorem clN_le (v : Int32) : clN v ≤ 99 := by
  unfold clN
  rcases anyI v with q | ⟨j, hj, rfl⟩
  · rw [li_0] at q
    rw [if_pos q]
    omega
  · rw [if_neg (nI_nlt (Nat.zero_le _) (by omega))]
    by_cases z : j ≤ 99
    · rw [if_neg (nI_nlt z (by omega)), nI_c hj]
      exact z
    · rw [if_pos (nI_lt (by omega) (by omega))]
      omega
theorem cl6 (v : Int32) : qa_max (nI 0) (qa_min (nI 99) v) = nI (clN v) := by
  unfold qa_max qa_min clN
  rcases anyI v with q | ⟨j, hj, rfl⟩
  · rw [li_0] at q
    have h1 : v < nI 99 := by
      rw [Int32.lt_iff_toInt_lt, pu_t (by omega)] at q ⊢
      omega
    have h2 : ¬ nI 0 < v := by
      rw [Int32.lt_iff_toInt_lt, pu_t (by omega)] at q ⊢
      omega
    rw [if_pos h1, if_neg h2, if_pos q]
  · rw [if_neg (nI_nlt (Nat.zero_le _) (by omega))]
    by_cases z : j < 99
    · rw [if_pos (show nI j < nI 99 from nI_lt z (by omega)), if_neg (show ¬ nI 99 < nI j from nI_nlt (by omega) (by omega)), nI_c hj]
      by_cases y : 0 < j
      · rw [if_pos (nI_lt y hj)]
      · rw [if_neg (nI_nlt (by omega) (by omega)), show j = 0 by omega]
    · rw [if_neg (show ¬ nI j < nI 99 from nI_nlt (by omega) (by omega)), if_pos (show nI 0 < nI 99 from nI_lt (by omega) (by omega))]
      by_cases y : 99 < j
      · rw [if_pos (nI_lt y hj)]
      · rw [if_neg (show ¬ nI 99 < nI j from nI_nlt (by omega) (by omega)), nI_c hj, show j = 99 by omega]
theorem cl7 (m : qaM) (v : Int32) : f_X7_within m v (nI 0) (nI 99) = some (nI (clN v)) := by
  unfold f_X7_within clN
  rcases anyI v with q | ⟨j, hj, rfl⟩
  · rw [li_0] at q
    rw [if_neg (fun z => absurd q (Int32.not_lt.mpr z)), if_pos q]
  · rw [if_pos (nI_le (Nat.zero_le _) hj), if_neg (nI_nlt (Nat.zero_le _) (by omega))]
    by_cases z : j ≤ 99
    · rw [if_pos (nI_le z (by omega)), if_neg (nI_nlt z (by omega)), nI_c hj]
    · rw [if_neg (fun y => z ((nI_leI hj (by omega)).mp y)), if_pos (nI_lt (by omega) hj)]
theorem eT_le {T : Nat → List Nat} (h : eT T 3 ≤ 160) {p : Nat} (hp : p < 3) : eT T p + (T p).length ≤ 160 ∧ eT T (p + 1) = eT T p + (T p).length := by
  refine ⟨?_, rfl⟩
  have h3 : eT T 3 = eT T 2 + (T 2).length := rfl
  have h2 : eT T 2 = eT T 1 + (T 1).length := rfl
  have h1 : eT T 1 = eT T 0 + (T 0).length := rfl
  have : p = 0 ∨ p = 1 ∨ p = 2 := by omega
  rcases this with rfl | rfl | rfl <;> omega
theorem pu_maxz {a : Nat} (ha : a < 2 ^ 31) : qa_max (nI a) (nI 0) = nI a := by
  unfold qa_max
  rw [if_neg (nI_nlt (Nat.zero_le _) ha)]
theorem TXX.c {m : qaM} {N : Nat} {S : SF} (h : TXX m N S) (hN : N ≤ 6) : TXc m N S := by
  intro m2 e1 e2 e3 l p f hl hp hf
  obtain ⟨_, T, hT⟩ := h
  obtain ⟨⟨t1, t2, t3, t4, t5⟩, hS⟩ := hT l hl
  obtain ⟨t6, t7⟩ := eT_le t1 hp
  have hw := t5 p hp
  obtain ⟨r, h1, h2, h3⟩ := lp_at (f := fun s : qaM × Int32 × Int32 => b_X5_says_71 s.1 (nI l) s.2.1 (nI (eT (T l) (p + 1))) s.2.2) (fun j s => ∃ h, htL ((T l p).take j) 0 = some h ∧ s.2 = (nI h, nI (eT (T l) p + j)) ∧ stK s.1 5 (evL f ((T l p).take j) (0, fun _ => nI 0)) ∧ qF [5] m2 s.1) (fun r => r.1 = nI (S l p f) ∧ qF [5] m2 r.2) (T l p).length (s := (m2, nI 0, nI (eT (T l) p))) ⟨0, rfl, rfl, fun a ha => absurd ha (Nat.not_lt_zero _), qF.rf _ _⟩ (by omega) (by
    rintro j ⟨x, k⟩ hj ⟨hh, g1, g2, g3, g4⟩
    have hk2 : k = (nI hh, nI (eT (T l) p + j)) := g2
    subst hk2
    replace g3 : stK x 5 (evL f ((T l p).take j) (0, fun _ => nI 0)) := g3
    replace g4 : qF [5] m2 x := g4
    have hev : evL f ((T l p).take j) (0, fun _ => nI 0) = (hh, (evL f ((T l p).take j) (0, fun _ => nI 0)).2) := Prod.ext (evL_h _ _ _ _ g1) rfl
    rcases Nat.lt_or_ge j (T l p).length with q | q
    · obtain ⟨ha, hb, d1, d2, d3, d4⟩ := htL_at hw q
      rw [g1] at d1
      have : hh = ha := Option.some.inj d1
      subst this
      obtain ⟨c1, c2, c3⟩ := t2 p j hp q
      rw [hev] at g3
      obtain ⟨x2, k1, k2, k3⟩ := k5step (x := x) (l := l) (E := eT (T l) (p + 1)) (k := eT (T l) p + j) (f := f) (by omega) (by omega) (by omega) (by
        rw [g4 2 (by decide), e2, show l * 160 + (eT (T l) p + j) = 160 * l + (eT (T l) p + j) by omega]
        exact c2) c1 d2 (by omega) (fun a ha => by rw [g4 4 (by decide)]; exact hf a ha) g3
      refine Or.inl ⟨(x2, nI hb, nI (eT (T l) p + j + 1)), k1, q, hb, d3, rfl, ?_, g4.t2 k3 (fun _ z => z)⟩
      rw [take_s q, evL_app, hev]
      exact k2
    · have hjl : j = (T l p).length := by omega
      refine Or.inr ⟨(nI (S l p f), x), ?_, rfl, g4⟩
      show b_X5_says_71 x (nI l) (nI hh) (nI (eT (T l) (p + 1))) (nI (eT (T l) p + j)) = _
      have ht : (T l p).take j = T l p := by rw [hjl, List.take_length]
      rw [ht] at g1 g3 hev
      rw [hw] at g1
      have hh1 : (1 : Nat) = hh := Option.some.inj g1
      have h0 : x 5 0 = (evL f (T l p) (0, fun _ => nI 0)).2 0 := by
        refine g3 0 ?_
        rw [evL_h _ _ _ _ hw]
        omega
      unfold b_X5_says_71 b_X5_says_265
      simp only [li_0, li_1, li_2, li_3, li_4, li_5, li_6, li_7, li_8, li_9, li_10, li_11, li_12, li_13, li_14, li_15, li_16, li_17, li_18, li_19, li_20, li_30, li_31, li_32, li_33, li_40, li_41, li_42, li_43, li_45, li_48, li_56, li_57, li_59, li_60, li_61, li_64, li_91, li_97, li_99, li_100, li_122, li_150, li_160, li_200, li_201, li_255, li_300, li_303, li_304, li_305, li_306, li_312, li_400, li_500, li_999, li_1003, li_3099, li_99999, li_100000, li_1000000, li_65, li_23, li_neg]
      rw [ic_le_t (by omega) (by omega), h0, cl6, hS p f hp]
      rfl)
  refine ⟨r.2, ?_, h3⟩
  have hmn : mnN (eT (T l) (p + 1)) 160 = eT (T l) (p + 1) := by
    unfold mnN
    split <;> omega
  have hst : b_X5_says_47 m2 (nI l) (nI p) (nI 0) (nI (eT (T l) p)) = some (nI (S l p f), r.2) := by
    unfold b_X5_says_47
    simp only [li_0, li_1, li_2, li_3, li_4, li_5, li_6, li_7, li_8, li_9, li_10, li_11, li_12, li_13, li_14, li_15, li_16, li_17, li_18, li_19, li_20, li_30, li_31, li_32, li_33, li_40, li_41, li_42, li_43, li_45, li_48, li_56, li_57, li_59, li_60, li_61, li_64, li_91, li_97, li_99, li_100, li_122, li_150, li_160, li_200, li_201, li_255, li_300, li_303, li_304, li_305, li_306, li_312, li_400, li_500, li_999, li_1003, li_3099, li_99999, li_100000, li_1000000, li_65, li_23, li_neg]
    rw [pu_mul, pu_add, pu_in (by omega) (by omega), pu_ck, pu_cl (by omega), e3, show l * 3 + p = 3 * l + p by omega, t3 p hp, pu_min (by omega) (by omega), hmn, pu_let, lp_X5_says_71, h1, ← h2]
  unfold f_X5_says
  simp only [li_0, li_1, li_2, li_3, li_4, li_5, li_6, li_7, li_8, li_9, li_10, li_11, li_12, li_13, li_14, li_15, li_16, li_17, li_18, li_19, li_20, li_30, li_31, li_32, li_33, li_40, li_41, li_42, li_43, li_45, li_48, li_56, li_57, li_59, li_60, li_61, li_64, li_91, li_97, li_99, li_100, li_122, li_150, li_160, li_200, li_201, li_255, li_300, li_303, li_304, li_305, li_306, li_312, li_400, li_500, li_999, li_1003, li_3099, li_99999, li_100000, li_1000000, li_65, li_23, li_neg]
  rw [if_neg (nI_nlt (Nat.zero_le _) (by omega)), ic_le_f (by omega) (by omega), if_neg (nI_nlt (Nat.zero_le _) (by omega)), if_pos (nI_lt hp (by omega))]
  by_cases p0 : p = 0
  · have e0 : eT (T l) p = 0 := by rw [p0]; rfl
    rw [e0] at hst
    rw [p0, if_pos rfl]
    rw [p0] at hst
    exact hst
  · have e4 := t3 (p - 1) (by omega)
    rw [show p - 1 + 1 = p by omega] at e4
    rw [ic_eq_f p0 (by omega) (by omega), pu_mul, pu_add, pu_sub (by omega), pu_in (by omega) (by omega), pu_ck, pu_cl (by omega), e3, show l * 3 + p - 1 = 3 * l + (p - 1) by omega, e4, pu_maxz (by omega)]
    exact hst
theorem TXX.r {m : qaM} {N : Nat} {S : SF} (h : TXX m N S) (hN : N ≤ 6) : TXr m N S := by
  intro m2 e1 e2 l p f hl hp h13 hf
  obtain ⟨_, T, hT⟩ := h
  obtain ⟨⟨t1, t2, t3, t4, t5⟩, hS⟩ := hT l hl
  obtain ⟨t6, t7⟩ := eT_le t1 hp
  have hw := t5 p hp
  obtain ⟨r, h1, h2, h3⟩ := lp_at (f := fun s : qaM × Int32 × Int32 => b_X7_says_16 s.1 (nI p) s.2.1 s.2.2) (fun j s => ∃ h, htL ((T l p).take j) 0 = some h ∧ s.2 = (nI h, nI (eT (T l) p + j)) ∧ stK s.1 54 (evL f ((T l p).take j) (0, fun _ => nI 0)) ∧ qF [54] m2 s.1) (fun r => r.1 = (evL f (T l p) (0, fun _ => nI 0)).2 0 ∧ qF [54] m2 r.2) (T l p).length (s := (m2, nI 0, nI (eT (T l) p))) ⟨0, rfl, rfl, fun a ha => absurd ha (Nat.not_lt_zero _), qF.rf _ _⟩ (by omega) (by
    rintro j ⟨x, k⟩ hj ⟨hh, g1, g2, g3, g4⟩
    have hk2 : k = (nI hh, nI (eT (T l) p + j)) := g2
    subst hk2
    replace g3 : stK x 54 (evL f ((T l p).take j) (0, fun _ => nI 0)) := g3
    replace g4 : qF [54] m2 x := g4
    have hev : evL f ((T l p).take j) (0, fun _ => nI 0) = (hh, (evL f ((T l p).take j) (0, fun _ => nI 0)).2) := Prod.ext (evL_h _ _ _ _ g1) rfl
    have x13 : x 36 13 = nI l := by rw [g4 36 (by decide)]; exact h13
    have x44 : x 44 (4 * l + p + 1) = nI (eT (T l) (p + 1)) := by
      rw [g4 44 (by decide), e2, Nat.add_assoc]
      exact t4 (p + 1) (by omega)
    rcases Nat.lt_or_ge j (T l p).length with q | q
    · obtain ⟨ha, hb, d1, d2, d3, d4⟩ := htL_at hw q
      rw [g1] at d1
      have : hh = ha := Option.some.inj d1
      subst this
      obtain ⟨c1, c2, c3⟩ := t2 p j hp q
      rw [hev] at g3
      obtain ⟨x2, k1, k2, k3⟩ := k7step (x := x) (l := l) (p := p) (E := eT (T l) (p + 1)) (k := eT (T l) p + j) (f := f) (by omega) hp (by omega) (by omega) x13 x44 (by
        rw [g4 43 (by decide), e1]
        exact c3) c1 d2 (by omega) (fun a ha => by rw [g4 55 (by decide)]; exact hf a ha) g3
      refine Or.inl ⟨(x2, nI hb, nI (eT (T l) p + j + 1)), k1, q, hb, d3, rfl, ?_, g4.t2 k3 (fun _ z => z)⟩
      rw [take_s q, evL_app, hev]
      exact k2
    · have hjl : j = (T l p).length := by omega
      refine Or.inr ⟨((evL f (T l p) (0, fun _ => nI 0)).2 0, x), ?_, rfl, g4⟩
      show b_X7_says_16 x (nI p) (nI hh) (nI (eT (T l) p + j)) = _
      have ht : (T l p).take j = T l p := by rw [hjl, List.take_length]
      rw [ht] at g1 g3 hev
      have h0 : x 54 0 = (evL f (T l p) (0, fun _ => nI 0)).2 0 := by
        refine g3 0 ?_
        rw [evL_h _ _ _ _ hw]
        omega
      unfold b_X7_says_16 b_X7_says_197
      simp only [li_0, li_1, li_2, li_3, li_4, li_5, li_6, li_7, li_8, li_9, li_10, li_11, li_12, li_13, li_14, li_15, li_16, li_17, li_18, li_19, li_20, li_30, li_31, li_32, li_33, li_40, li_41, li_42, li_43, li_45, li_48, li_56, li_57, li_59, li_60, li_61, li_64, li_91, li_97, li_99, li_100, li_122, li_150, li_160, li_200, li_201, li_255, li_300, li_303, li_304, li_305, li_306, li_312, li_400, li_500, li_999, li_1003, li_3099, li_99999, li_100000, li_1000000, li_65, li_23, li_neg]
      rw [x13, pu_mul, pu_add, pu_add, pu_in (by omega) (by omega), pu_ck, pu_cl (by omega), x44, ic_le_t (by omega) (by omega), h0]
      rfl)
  refine ⟨r.2, r.1, ?_, ?_, h3⟩
  · have x44 : m2 44 (4 * l + p) = nI (eT (T l) p) := by
      rw [e2]
      exact t4 p (by omega)
    unfold f_X7_says
    simp only [li_0, li_1, li_2, li_3, li_4, li_5, li_6, li_7, li_8, li_9, li_10, li_11, li_12, li_13, li_14, li_15, li_16, li_17, li_18, li_19, li_20, li_30, li_31, li_32, li_33, li_40, li_41, li_42, li_43, li_45, li_48, li_56, li_57, li_59, li_60, li_61, li_64, li_91, li_97, li_99, li_100, li_122, li_150, li_160, li_200, li_201, li_255, li_300, li_303, li_304, li_305, li_306, li_312, li_400, li_500, li_999, li_1003, li_3099, li_99999, li_100000, li_1000000, li_65, li_23, li_neg]
    rw [h13, pu_mul, pu_add, pu_in (by omega) (by omega), pu_ck, pu_cl (by omega), x44, pu_let, lp_X7_says_16, h1]
  · rw [h2, cl7, hS p f hp]
    rfl
