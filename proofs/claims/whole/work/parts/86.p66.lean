/-! PURE: what a text says, on both sides -/
theorem evL_app (f : Nat → Int32) : ∀ (a b : List Nat) (X : Nat × (Nat → Int32)), evL f (a ++ b) X = evL f b (evL f a X) := by
  intro a
  induction a with
  | nil => exact fun _ _ => rfl
  | cons c a ih => exact fun b X => ih b _
theorem htL_app : ∀ (a b : List Nat) (h : Nat), htL (a ++ b) h = Option.bind (htL a h) (htL b) := by
  intro a
  induction a with
  | nil => exact fun _ _ => rfl
  | cons c a ih =>
    intro b h
    show Option.bind (htS c h) (htL (a ++ b)) = Option.bind (Option.bind (htS c h) (htL a)) (htL b)
    cases htS c h with
    | none => rfl
    | some h2 => exact ih b h2
theorem evS_h {f : Nat → Int32} {c h h2 : Nat} {s : Nat → Int32} (hh : htS c h = some h2) : (evS f c (h, s)).1 = h2 := by
  unfold htS at hh
  unfold evS
  by_cases c1 : 100000 ≤ c
  · rw [if_pos (Or.inl c1)] at hh
    rw [if_pos c1]
    exact Option.some.inj hh
  · rw [if_neg c1]
    by_cases c2 : c < 11
    · rw [if_pos (Or.inr c2)] at hh
      rw [if_pos c2]
      exact Option.some.inj hh
    · rw [if_neg (by omega)] at hh
      rw [if_neg c2]
      by_cases c3 : c = 13
      · rw [if_pos (Or.inl c3)] at hh
        rw [if_pos c3]
        split at hh
        · exact Option.some.inj hh
        · cases hh
      · rw [if_neg c3]
        by_cases c4 : c = 19
        · rw [if_pos (Or.inr c4)] at hh
          rw [if_pos c4]
          split at hh
          · exact Option.some.inj hh
          · cases hh
        · rw [if_neg (by omega)] at hh
          rw [if_neg c4]
          split at hh
          · exact Option.some.inj hh
          · cases hh
theorem evL_h {f : Nat → Int32} : ∀ (w : List Nat) (h h2 : Nat) (s : Nat → Int32), htL w h = some h2 → (evL f w (h, s)).1 = h2 := by
  intro w
  induction w with
  | nil =>
    intro h h2 s hh
    exact Option.some.inj hh
  | cons c w ih =>
    intro h h2 s hh
    have hh2 : Option.bind (htS c h) (htL w) = some h2 := hh
    cases hc : htS c h with
    | none =>
      rw [hc] at hh2
      cases hh2
    | some h3 =>
      rw [hc] at hh2
      have e := evS_h (f := f) (s := s) hc
      show (evL f w (evS f c (h, s))).1 = h2
      have : evS f c (h, s) = (h3, (evS f c (h, s)).2) := Prod.ext e rfl
      rw [this]
      exact ih h3 h2 _ hh2
theorem htL_le : ∀ (w : List Nat) (h h2 : Nat), htL w h = some h2 → h2 ≤ h + w.length := by
  intro w
  induction w with
  | nil =>
    intro h h2 hh
    have := Option.some.inj hh
    simp
    omega
  | cons c w ih =>
    intro h h2 hh
    have hh2 : Option.bind (htS c h) (htL w) = some h2 := hh
    cases hc : htS c h with
    | none =>
      rw [hc] at hh2
      cases hh2
    | some h3 =>
      rw [hc] at hh2
      have h4 := ih h3 h2 hh2
      have h5 : h3 ≤ h + 1 := by
        unfold htS at hc
        repeat' split at hc
        all_goals first | (have := Option.some.inj hc; omega) | cases hc
      rw [List.length_cons]
      omega
theorem take_s {w : List Nat} {j : Nat} (hj : j < w.length) : w.take (j + 1) = w.take j ++ [w.getD j 0] := by
  rw [List.getD_eq_getElem?_getD, List.getElem?_eq_getElem hj, Option.getD_some, List.take_append_getElem]
/-- at step j: the height, and that the step can be done -/
theorem htL_at {w : List Nat} {j h2 : Nat} (hw : htL w 0 = some h2) (hj : j < w.length) : ∃ h h3, htL (w.take j) 0 = some h ∧ htS (w.getD j 0) h = some h3 ∧ htL (w.take (j + 1)) 0 = some h3 ∧ h ≤ j := by
  have e : w = w.take (j + 1) ++ w.drop (j + 1) := (List.take_append_drop _ _).symm
  rw [e, htL_app] at hw
  cases h1 : htL (w.take (j + 1)) 0 with
  | none =>
    rw [h1] at hw
    cases hw
  | some h3 =>
    have h4 := h1
    rw [take_s hj, htL_app] at h4
    cases h5 : htL (w.take j) 0 with
    | none =>
      rw [h5] at h4
      cases h4
    | some h =>
      rw [h5] at h4
      have h6 : Option.bind (htS (w.getD j 0) h) (htL []) = some h3 := h4
      have hle := htL_le _ _ _ h5
      rw [List.length_take] at hle
      cases h7 : htS (w.getD j 0) h with
      | none =>
        rw [h7] at h6
        cases h6
      | some h8 =>
        rw [h7] at h6
        have : h8 = h3 := Option.some.inj h6
        exact ⟨h, h8, rfl, h7, by rw [this], by omega⟩
theorem neg_nM (n : Nat) : -nM n = nI n := by
  unfold nM
  exact Int32.neg_neg
/-- the stack in a cell -/
def stK (x : qaM) (b : Nat) (X : Nat × (Nat → Int32)) : Prop := ∀ a : Nat, a < X.1 → x b a = X.2 a
theorem stK.up {x : qaM} {b h i h2 : Nat} {s : Nat → Int32} {v : Int32} (k : stK x b (h, s)) (h1 : h2 ≤ h ∨ (h2 = h + 1 ∧ i = h)) : stK (qa_st x b i v) b (h2, upd s i v) := by
  intro a ha
  have ha2 : a < h2 := ha
  rw [st_s]
  show upd (x b) i v a = upd s i v a
  by_cases q : a = i
  · rw [q, up_s, up_s]
  · rw [up_n q, up_n q]
    exact k a (by show a < h; omega)
theorem k5step {x : qaM} {l h h2 E k c : Nat} {f : Nat → Int32} {s : Nat → Int32} (hl : l < 6) (hk : k < E) (hE : E ≤ 160) (hc : x 2 (l * 160 + k) = en6 c) (hst : stC c) (hh : htS c h = some h2) (hle : h ≤ k) (hf : ∀ a : Nat, a < 6 → x 4 a = f a) (ks : stK x 5 (h, s)) :
    ∃ x2, b_X5_says_71 x (nI l) (nI h) (nI E) (nI k) = some (.inl (x2, nI h2, nI (k + 1))) ∧ stK x2 5 (evS f c (h, s)) ∧ qF [5] x x2 := by
  have hhv := evS_h (f := f) (s := s) hh
  have hin : b_X5_says_71 x (nI l) (nI h) (nI E) (nI k) = qa_lt (en6 c) (fun x5 => qa_lt ((-x5) - nI 306) (fun x6 => if nI 0 ≤ x5 then (b_X5_says_119 x (nI l) (nI h) (nI E) (nI k) x5 x6) else (if x6 < nI 0 then (b_X5_says_155 x (nI l) (nI h) (nI E) (nI k) x5) else (if nI 6 ≤ x6 then (b_X5_says_155 x (nI l) (nI h) (nI E) (nI k) x5) else (b_X5_says_119 x (nI l) (nI h) (nI E) (nI k) x5 x6))))) := by
    unfold b_X5_says_71
    simp only [li_0, li_1, li_2, li_3, li_4, li_5, li_6, li_7, li_8, li_9, li_10, li_11, li_12, li_13, li_14, li_15, li_16, li_17, li_18, li_19, li_20, li_30, li_31, li_32, li_33, li_40, li_41, li_42, li_43, li_45, li_48, li_56, li_57, li_59, li_60, li_61, li_64, li_91, li_97, li_99, li_100, li_122, li_150, li_160, li_200, li_201, li_255, li_300, li_303, li_304, li_305, li_306, li_312, li_400, li_500, li_999, li_1003, li_3099, li_99999, li_100000, li_1000000, li_65, li_23, li_neg]
    rw [ic_le_f hk (by omega), pu_mul, pu_add, pu_in (by omega) (by omega), pu_ck, pu_cl (by omega), hc]
  rw [hin, pu_let, pu_let]
  -- a number or a name is pushed
  have hpush : ∀ v : Int32, h2 = h + 1 → evS f c (h, s) = (h + 1, upd s h v) → b_X5_says_148 x (nI l) (nI h) (nI E) (nI k) (nI h) v = some (.inl (qa_st x 5 h v, nI h2, nI (k + 1))) ∧ stK (qa_st x 5 h v) 5 (evS f c (h, s)) ∧ qF [5] x (qa_st x 5 h v) := by
    intro v e1 e2
    refine ⟨?_, ?_, qF.st _ _ _ _⟩
    · rw [e1]
      ((try simp only [b_X5_says_148, b_X5_says_259, li_0, li_1, li_2, li_3, li_4, li_5, li_6, li_7, li_8, li_9, li_10, li_11, li_12, li_13, li_14, li_15, li_16, li_17, li_18, li_19, li_20, li_30, li_31, li_32, li_33, li_40, li_41, li_42, li_43, li_45, li_48, li_56, li_57, li_59, li_60, li_61, li_64, li_91, li_97, li_99, li_100, li_122, li_150, li_160, li_200, li_201, li_255, li_300, li_303, li_304, li_305, li_306, li_312, li_400, li_500, li_999, li_1003, li_3099, li_99999, li_100000, li_1000000, li_65, li_23, li_neg]); (try simp (disch := omega) only [b_X5_says_148, b_X5_says_259, ic_le_f, ic_le_t, ic_lt_f, ic_lt_t, ic_eq_f, ic_eq_t, ic_im, ic_mi, ic_mm_t, ic_mm_f, ic_mlt, ic_mle, ic_ilem, ic_iltm, ic_mmle_t, ic_mmle_f, pu_add, pu_mul, pu_in, pu_ck, pu_let, pu_cl, pu_cpok, pu_inr, Option.bind_some, ite_true, ite_false, pu_dm, pu_dv, pu_sub, nt_dm, if_true, if_false]))
    · rw [e2]
      exact ks.up (Or.inr ⟨rfl, rfl⟩)
  rcases hst with ⟨c1, c2⟩ | c1 | ⟨c1, c2⟩
  · have e2 : evS f c (h, s) = (h + 1, upd s h (nI (c - 100000))) := if_pos c1
    have e1 : h2 = h + 1 := by rw [← hhv, e2]
    have e3 : en6 c = nI (c - 100000) := if_pos c1
    obtain ⟨g1, g2, g3⟩ := hpush _ e1 e2
    refine ⟨_, ?_, g2, g3⟩
    rw [e3, if_pos (nI_le (Nat.zero_le _) (by omega))]
    unfold b_X5_says_119
    simp only [li_0, li_1, li_2, li_3, li_4, li_5, li_6, li_7, li_8, li_9, li_10, li_11, li_12, li_13, li_14, li_15, li_16, li_17, li_18, li_19, li_20, li_30, li_31, li_32, li_33, li_40, li_41, li_42, li_43, li_45, li_48, li_56, li_57, li_59, li_60, li_61, li_64, li_91, li_97, li_99, li_100, li_122, li_150, li_160, li_200, li_201, li_255, li_300, li_303, li_304, li_305, li_306, li_312, li_400, li_500, li_999, li_1003, li_3099, li_99999, li_100000, li_1000000, li_65, li_23, li_neg]
    rw [ic_le_f (by omega) (by omega), if_neg (nI_nlt (Nat.zero_le _) (by omega)), g1]
  · have e2 : evS f c (h, s) = (h + 1, upd s h (f c)) := by
      unfold evS
      rw [if_neg (by omega), if_pos (by omega)]
    have e1 : h2 = h + 1 := by rw [← hhv, e2]
    have e3 : en6 c = nM (306 + c) := by
      unfold en6
      rw [if_neg (by omega), if_pos (by omega)]
    obtain ⟨g1, g2, g3⟩ := hpush _ e1 e2
    refine ⟨_, ?_, g2, g3⟩
    rw [e3, neg_nM, pu_sub (by omega), ic_ilem (Or.inl (by omega)) (by omega) (by omega), if_neg (nI_nlt (Nat.zero_le _) (by omega)), ic_le_f (by omega) (by omega), show 306 + c - 306 = c by omega]
    unfold b_X5_says_119
    simp only [li_0, li_1, li_2, li_3, li_4, li_5, li_6, li_7, li_8, li_9, li_10, li_11, li_12, li_13, li_14, li_15, li_16, li_17, li_18, li_19, li_20, li_30, li_31, li_32, li_33, li_40, li_41, li_42, li_43, li_45, li_48, li_56, li_57, li_59, li_60, li_61, li_64, li_91, li_97, li_99, li_100, li_122, li_150, li_160, li_200, li_201, li_255, li_300, li_303, li_304, li_305, li_306, li_312, li_400, li_500, li_999, li_1003, li_3099, li_99999, li_100000, li_1000000, li_65, li_23, li_neg]
    rw [ic_le_f (by omega) (by omega), ic_mlt (Or.inl (by omega)) (by omega) (by omega), pu_in (by omega) (by omega), pu_ck, pu_cl (by omega), hf c c1, g1]
  · -- the steps that join or turn
    have hun : ∀ n : Nat, n < 306 → en6 c = nM n → (if nI 0 ≤ en6 c then (b_X5_says_119 x (nI l) (nI h) (nI E) (nI k) (en6 c) (-en6 c - nI 306)) else (if -en6 c - nI 306 < nI 0 then (b_X5_says_155 x (nI l) (nI h) (nI E) (nI k) (en6 c)) else (if nI 6 ≤ -en6 c - nI 306 then (b_X5_says_155 x (nI l) (nI h) (nI E) (nI k) (en6 c)) else (b_X5_says_119 x (nI l) (nI h) (nI E) (nI k) (en6 c) (-en6 c - nI 306))))) = b_X5_says_155 x (nI l) (nI h) (nI E) (nI k) (nM n) ∨ n = 0 := by
      intro n hn e
      by_cases n0 : n = 0
      · exact Or.inr n0
      · refine Or.inl ?_
        rw [e, neg_nM, pu_subm hn, ic_ilem (Or.inl (by omega)) (by omega) (by omega), ic_mlt (Or.inl (by omega)) (by omega) (by omega)]
    -- one of the top
    have h209 : ∀ v : Int32, 1 ≤ h → h2 = h → evS f c (h, s) = (h, upd s (h - 1) v) → b_X5_says_217 x (nI l) (nI h) (nI E) (nI k) (nI (h - 1)) v = some (.inl (qa_st x 5 (h - 1) v, nI h2, nI (k + 1))) ∧ stK (qa_st x 5 (h - 1) v) 5 (evS f c (h, s)) ∧ qF [5] x (qa_st x 5 (h - 1) v) := by
      intro v h1 e1 e2
      refine ⟨?_, ?_, qF.st _ _ _ _⟩
      · rw [e1]
        ((try simp only [b_X5_says_217, b_X5_says_259, li_0, li_1, li_2, li_3, li_4, li_5, li_6, li_7, li_8, li_9, li_10, li_11, li_12, li_13, li_14, li_15, li_16, li_17, li_18, li_19, li_20, li_30, li_31, li_32, li_33, li_40, li_41, li_42, li_43, li_45, li_48, li_56, li_57, li_59, li_60, li_61, li_64, li_91, li_97, li_99, li_100, li_122, li_150, li_160, li_200, li_201, li_255, li_300, li_303, li_304, li_305, li_306, li_312, li_400, li_500, li_999, li_1003, li_3099, li_99999, li_100000, li_1000000, li_65, li_23, li_neg]); (try simp (disch := omega) only [b_X5_says_217, b_X5_says_259, ic_le_f, ic_le_t, ic_lt_f, ic_lt_t, ic_eq_f, ic_eq_t, ic_im, ic_mi, ic_mm_t, ic_mm_f, ic_mlt, ic_mle, ic_ilem, ic_iltm, ic_mmle_t, ic_mmle_f, pu_add, pu_mul, pu_in, pu_ck, pu_let, pu_cl, pu_cpok, pu_inr, Option.bind_some, ite_true, ite_false, pu_dm, pu_dv, pu_sub, nt_dm, if_true, if_false]))
      · rw [e2]
        exact ks.up (Or.inl (Nat.le_refl _))
    have htop : 1 ≤ h → x 5 (h - 1) = s (h - 1) := fun h1 => ks (h - 1) (by show h - 1 < h; omega)
    have htop2 : 2 ≤ h → x 5 (h - 2) = s (h - 2) := fun h1 => ks (h - 2) (by show h - 2 < h; omega)
    -- two of the top
    have hjoin : ∀ n : Nat, n < 306 → 0 < n → n ≠ 200 → n ≠ 305 → 2 ≤ h → en6 c = nM n → h2 = h - 1 → evS f c (h, s) = (h - 1, upd s (h - 2) (opV c (s (h - 2)) (s (h - 1)))) → (∀ a b : Int32, f_X5_joins x (nI n) a b = some (opV c a b)) →
        ∃ x2, (if nI 0 ≤ en6 c then (b_X5_says_119 x (nI l) (nI h) (nI E) (nI k) (en6 c) (-en6 c - nI 306)) else (if -en6 c - nI 306 < nI 0 then (b_X5_says_155 x (nI l) (nI h) (nI E) (nI k) (en6 c)) else (if nI 6 ≤ -en6 c - nI 306 then (b_X5_says_155 x (nI l) (nI h) (nI E) (nI k) (en6 c)) else (b_X5_says_119 x (nI l) (nI h) (nI E) (nI k) (en6 c) (-en6 c - nI 306))))) = some (.inl (x2, nI h2, nI (k + 1))) ∧ stK x2 5 (evS f c (h, s)) ∧ qF [5] x x2 := by
      intro n n1 n0 n2 n3 h1 e e1 e2 hj
      refine ⟨qa_st x 5 (h - 2) (opV c (s (h - 2)) (s (h - 1))), ?_, ?_, qF.st _ _ _ _⟩
      · rcases hun n n1 e with w | w
        · rw [w]
          unfold b_X5_says_155
          simp only [li_0, li_1, li_2, li_3, li_4, li_5, li_6, li_7, li_8, li_9, li_10, li_11, li_12, li_13, li_14, li_15, li_16, li_17, li_18, li_19, li_20, li_30, li_31, li_32, li_33, li_40, li_41, li_42, li_43, li_45, li_48, li_56, li_57, li_59, li_60, li_61, li_64, li_91, li_97, li_99, li_100, li_122, li_150, li_160, li_200, li_201, li_255, li_300, li_303, li_304, li_305, li_306, li_312, li_400, li_500, li_999, li_1003, li_3099, li_99999, li_100000, li_1000000, li_65, li_23, li_neg]
          rw [if_neg (fun z => n2 (nM_inj (by omega) (by omega) z)), if_neg (fun z => n3 (nM_inj (by omega) (by omega) z)), ic_lt_f h1 (by omega), pu_sub h1, pu_sub (by omega), pu_in (by omega) (by omega), pu_ck, pu_in (by omega) (by omega), pu_ck, pu_cl (by omega), pu_cl (by omega), neg_nM, hj, Option.bind_some, pu_ck, pu_let, htop2 h1, htop (by omega), e1]
          obtain ⟨h3, rfl⟩ : ∃ h3, h = h3 + 1 := ⟨h - 1, by omega⟩
          rw [plI_p, plI_s, pu_let]
          ((try simp only [b_X5_says_259, li_0, li_1, li_2, li_3, li_4, li_5, li_6, li_7, li_8, li_9, li_10, li_11, li_12, li_13, li_14, li_15, li_16, li_17, li_18, li_19, li_20, li_30, li_31, li_32, li_33, li_40, li_41, li_42, li_43, li_45, li_48, li_56, li_57, li_59, li_60, li_61, li_64, li_91, li_97, li_99, li_100, li_122, li_150, li_160, li_200, li_201, li_255, li_300, li_303, li_304, li_305, li_306, li_312, li_400, li_500, li_999, li_1003, li_3099, li_99999, li_100000, li_1000000, li_65, li_23, li_neg]); (try simp (disch := omega) only [b_X5_says_259, ic_le_f, ic_le_t, ic_lt_f, ic_lt_t, ic_eq_f, ic_eq_t, ic_im, ic_mi, ic_mm_t, ic_mm_f, ic_mlt, ic_mle, ic_ilem, ic_iltm, ic_mmle_t, ic_mmle_f, pu_add, pu_mul, pu_in, pu_ck, pu_let, pu_cl, pu_cpok, pu_inr, Option.bind_some, ite_true, ite_false, pu_dm, pu_dv, pu_sub, nt_dm, if_true, if_false]))
          rfl
        · omega
      · rw [e2]
        exact ks.up (Or.inl (by omega))
    have h2b : c ≠ 13 → c ≠ 19 → 2 ≤ h ∧ h2 = h - 1 ∧ evS f c (h, s) = (h - 1, upd s (h - 2) (opV c (s (h - 2)) (s (h - 1)))) := by
      intro d1 d2
      have e2 : evS f c (h, s) = (h - 1, upd s (h - 2) (opV c (s (h - 2)) (s (h - 1)))) := by
        unfold evS
        rw [if_neg (by omega), if_neg (by omega), if_neg d1, if_neg d2]
      refine ⟨?_, by rw [← hhv, e2], e2⟩
      unfold htS at hh
      rw [if_neg (by omega), if_neg (by omega)] at hh
      by_cases z : 2 ≤ h
      · exact z
      · rw [if_neg z] at hh
        cases hh
    have h1b : c = 13 ∨ c = 19 → 1 ≤ h ∧ h2 = h := by
      intro d
      unfold htS at hh
      rw [if_neg (by omega), if_pos d] at hh
      by_cases z : 1 ≤ h
      · rw [if_pos z] at hh
        exact ⟨z, (Option.some.inj hh).symm⟩
      · rw [if_neg z] at hh
        cases hh
    have hcs : c = 11 ∨ c = 12 ∨ c = 13 ∨ c = 14 ∨ c = 15 ∨ c = 16 ∨ c = 17 ∨ c = 18 ∨ c = 19 := by omega
    rcases hcs with rfl | rfl | rfl | rfl | rfl | rfl | rfl | rfl | rfl
    · obtain ⟨d1, d2, d3⟩ := h2b (by omega) (by omega)
      exact hjoin 303 (by omega) (by omega) (by omega) (by omega) d1 rfl d2 d3 (fun a b => by
        ((try simp only [f_X5_joins, b_X5_joins_116, li_0, li_1, li_2, li_3, li_4, li_5, li_6, li_7, li_8, li_9, li_10, li_11, li_12, li_13, li_14, li_15, li_16, li_17, li_18, li_19, li_20, li_30, li_31, li_32, li_33, li_40, li_41, li_42, li_43, li_45, li_48, li_56, li_57, li_59, li_60, li_61, li_64, li_91, li_97, li_99, li_100, li_122, li_150, li_160, li_200, li_201, li_255, li_300, li_303, li_304, li_305, li_306, li_312, li_400, li_500, li_999, li_1003, li_3099, li_99999, li_100000, li_1000000, li_65, li_23, li_neg]); (try simp (disch := omega) only [f_X5_joins, b_X5_joins_116, ic_le_f, ic_le_t, ic_lt_f, ic_lt_t, ic_eq_f, ic_eq_t, ic_im, ic_mi, ic_mm_t, ic_mm_f, ic_mlt, ic_mle, ic_ilem, ic_iltm, ic_mmle_t, ic_mmle_f, pu_add, pu_mul, pu_in, pu_ck, pu_let, pu_cl, pu_cpok, pu_inr, Option.bind_some, ite_true, ite_false, pu_dm, pu_dv, pu_sub, nt_dm, if_true, if_false]))
        unfold opV
        simp only [if_true]
        repeat' split
        all_goals rfl)
    · obtain ⟨d1, d2, d3⟩ := h2b (by omega) (by omega)
      exact hjoin 304 (by omega) (by omega) (by omega) (by omega) d1 rfl d2 d3 (fun a b => by
        ((try simp only [f_X5_joins, b_X5_joins_116, li_0, li_1, li_2, li_3, li_4, li_5, li_6, li_7, li_8, li_9, li_10, li_11, li_12, li_13, li_14, li_15, li_16, li_17, li_18, li_19, li_20, li_30, li_31, li_32, li_33, li_40, li_41, li_42, li_43, li_45, li_48, li_56, li_57, li_59, li_60, li_61, li_64, li_91, li_97, li_99, li_100, li_122, li_150, li_160, li_200, li_201, li_255, li_300, li_303, li_304, li_305, li_306, li_312, li_400, li_500, li_999, li_1003, li_3099, li_99999, li_100000, li_1000000, li_65, li_23, li_neg]); (try simp (disch := omega) only [f_X5_joins, b_X5_joins_116, ic_le_f, ic_le_t, ic_lt_f, ic_lt_t, ic_eq_f, ic_eq_t, ic_im, ic_mi, ic_mm_t, ic_mm_f, ic_mlt, ic_mle, ic_ilem, ic_iltm, ic_mmle_t, ic_mmle_f, pu_add, pu_mul, pu_in, pu_ck, pu_let, pu_cl, pu_cpok, pu_inr, Option.bind_some, ite_true, ite_false, pu_dm, pu_dv, pu_sub, nt_dm, if_true, if_false]))
        have e : opV 12 a b = (if a = nI 0 then nI 0 else if b = nI 0 then nI 0 else nI 1) := rfl
        rw [e]
        repeat' split
        all_goals first | rfl | contradiction | omega)
    · obtain ⟨d1, d2⟩ := h1b (Or.inl rfl)
      have e2 : evS f 13 (h, s) = (h, upd s (h - 1) (if s (h - 1) = nI 0 then nI 1 else nI 0)) := rfl
      obtain ⟨g1, g2, g3⟩ := h209 _ d1 d2 e2
      refine ⟨_, ?_, g2, g3⟩
      rcases hun 305 (by omega) rfl with w | w
      · rw [w]
        unfold b_X5_says_155 b_X5_says_171
        simp only [li_0, li_1, li_2, li_3, li_4, li_5, li_6, li_7, li_8, li_9, li_10, li_11, li_12, li_13, li_14, li_15, li_16, li_17, li_18, li_19, li_20, li_30, li_31, li_32, li_33, li_40, li_41, li_42, li_43, li_45, li_48, li_56, li_57, li_59, li_60, li_61, li_64, li_91, li_97, li_99, li_100, li_122, li_150, li_160, li_200, li_201, li_255, li_300, li_303, li_304, li_305, li_306, li_312, li_400, li_500, li_999, li_1003, li_3099, li_99999, li_100000, li_1000000, li_65, li_23, li_neg]
        rw [ic_mm_f (by omega) (by omega) (by omega), if_pos trivial, ic_lt_f d1 (by omega), pu_sub d1, pu_in (by omega) (by omega), pu_ck, pu_cl (by omega), pu_let, htop d1, ic_mm_f (by omega) (by omega) (by omega)]
        by_cases z : s (h - 1) = nI 0
        · rw [if_pos z]
          rw [if_pos z] at g1
          rw [if_pos z]
          exact g1
        · rw [if_neg z]
          rw [if_neg z] at g1
          rw [if_neg z]
          exact g1
      · omega
    · obtain ⟨d1, d2, d3⟩ := h2b (by omega) (by omega)
      exact hjoin 60 (by omega) (by omega) (by omega) (by omega) d1 rfl d2 d3 (fun a b => by
        ((try simp only [f_X5_joins, b_X5_joins_116, li_0, li_1, li_2, li_3, li_4, li_5, li_6, li_7, li_8, li_9, li_10, li_11, li_12, li_13, li_14, li_15, li_16, li_17, li_18, li_19, li_20, li_30, li_31, li_32, li_33, li_40, li_41, li_42, li_43, li_45, li_48, li_56, li_57, li_59, li_60, li_61, li_64, li_91, li_97, li_99, li_100, li_122, li_150, li_160, li_200, li_201, li_255, li_300, li_303, li_304, li_305, li_306, li_312, li_400, li_500, li_999, li_1003, li_3099, li_99999, li_100000, li_1000000, li_65, li_23, li_neg]); (try simp (disch := omega) only [f_X5_joins, b_X5_joins_116, ic_le_f, ic_le_t, ic_lt_f, ic_lt_t, ic_eq_f, ic_eq_t, ic_im, ic_mi, ic_mm_t, ic_mm_f, ic_mlt, ic_mle, ic_ilem, ic_iltm, ic_mmle_t, ic_mmle_f, pu_add, pu_mul, pu_in, pu_ck, pu_let, pu_cl, pu_cpok, pu_inr, Option.bind_some, ite_true, ite_false, pu_dm, pu_dv, pu_sub, nt_dm, if_true, if_false]))
        have e : opV 14 a b = (if b ≤ a then nI 0 else nI 1) := rfl
        rw [e]
        repeat' split
        all_goals first | rfl | contradiction | omega)
    · obtain ⟨d1, d2, d3⟩ := h2b (by omega) (by omega)
      exact hjoin 61 (by omega) (by omega) (by omega) (by omega) d1 rfl d2 d3 (fun a b => by
        ((try simp only [f_X5_joins, b_X5_joins_116, li_0, li_1, li_2, li_3, li_4, li_5, li_6, li_7, li_8, li_9, li_10, li_11, li_12, li_13, li_14, li_15, li_16, li_17, li_18, li_19, li_20, li_30, li_31, li_32, li_33, li_40, li_41, li_42, li_43, li_45, li_48, li_56, li_57, li_59, li_60, li_61, li_64, li_91, li_97, li_99, li_100, li_122, li_150, li_160, li_200, li_201, li_255, li_300, li_303, li_304, li_305, li_306, li_312, li_400, li_500, li_999, li_1003, li_3099, li_99999, li_100000, li_1000000, li_65, li_23, li_neg]); (try simp (disch := omega) only [f_X5_joins, b_X5_joins_116, ic_le_f, ic_le_t, ic_lt_f, ic_lt_t, ic_eq_f, ic_eq_t, ic_im, ic_mi, ic_mm_t, ic_mm_f, ic_mlt, ic_mle, ic_ilem, ic_iltm, ic_mmle_t, ic_mmle_f, pu_add, pu_mul, pu_in, pu_ck, pu_let, pu_cl, pu_cpok, pu_inr, Option.bind_some, ite_true, ite_false, pu_dm, pu_dv, pu_sub, nt_dm, if_true, if_false]))
        have e : opV 15 a b = (if a = b then nI 1 else nI 0) := rfl
        rw [e]
        repeat' split
        all_goals first | rfl | contradiction | omega)
    · obtain ⟨d1, d2, d3⟩ := h2b (by omega) (by omega)
      exact hjoin 43 (by omega) (by omega) (by omega) (by omega) d1 rfl d2 d3 (fun a b => by
        ((try simp only [f_X5_joins, b_X5_joins_116, li_0, li_1, li_2, li_3, li_4, li_5, li_6, li_7, li_8, li_9, li_10, li_11, li_12, li_13, li_14, li_15, li_16, li_17, li_18, li_19, li_20, li_30, li_31, li_32, li_33, li_40, li_41, li_42, li_43, li_45, li_48, li_56, li_57, li_59, li_60, li_61, li_64, li_91, li_97, li_99, li_100, li_122, li_150, li_160, li_200, li_201, li_255, li_300, li_303, li_304, li_305, li_306, li_312, li_400, li_500, li_999, li_1003, li_3099, li_99999, li_100000, li_1000000, li_65, li_23, li_neg]); (try simp (disch := omega) only [f_X5_joins, b_X5_joins_116, ic_le_f, ic_le_t, ic_lt_f, ic_lt_t, ic_eq_f, ic_eq_t, ic_im, ic_mi, ic_mm_t, ic_mm_f, ic_mlt, ic_mle, ic_ilem, ic_iltm, ic_mmle_t, ic_mmle_f, pu_add, pu_mul, pu_in, pu_ck, pu_let, pu_cl, pu_cpok, pu_inr, Option.bind_some, ite_true, ite_false, pu_dm, pu_dv, pu_sub, nt_dm, if_true, if_false]))
        rfl)
    · obtain ⟨d1, d2, d3⟩ := h2b (by omega) (by omega)
      exact hjoin 45 (by omega) (by omega) (by omega) (by omega) d1 rfl d2 d3 (fun a b => by
        ((try simp only [f_X5_joins, b_X5_joins_116, li_0, li_1, li_2, li_3, li_4, li_5, li_6, li_7, li_8, li_9, li_10, li_11, li_12, li_13, li_14, li_15, li_16, li_17, li_18, li_19, li_20, li_30, li_31, li_32, li_33, li_40, li_41, li_42, li_43, li_45, li_48, li_56, li_57, li_59, li_60, li_61, li_64, li_91, li_97, li_99, li_100, li_122, li_150, li_160, li_200, li_201, li_255, li_300, li_303, li_304, li_305, li_306, li_312, li_400, li_500, li_999, li_1003, li_3099, li_99999, li_100000, li_1000000, li_65, li_23, li_neg]); (try simp (disch := omega) only [f_X5_joins, b_X5_joins_116, ic_le_f, ic_le_t, ic_lt_f, ic_lt_t, ic_eq_f, ic_eq_t, ic_im, ic_mi, ic_mm_t, ic_mm_f, ic_mlt, ic_mle, ic_ilem, ic_iltm, ic_mmle_t, ic_mmle_f, pu_add, pu_mul, pu_in, pu_ck, pu_let, pu_cl, pu_cpok, pu_inr, Option.bind_some, ite_true, ite_false, pu_dm, pu_dv, pu_sub, nt_dm, if_true, if_false]))
        rfl)
    · obtain ⟨d1, d2, d3⟩ := h2b (by omega) (by omega)
      exact hjoin 42 (by omega) (by omega) (by omega) (by omega) d1 rfl d2 d3 (fun a b => by
        ((try simp only [f_X5_joins, b_X5_joins_116, li_0, li_1, li_2, li_3, li_4, li_5, li_6, li_7, li_8, li_9, li_10, li_11, li_12, li_13, li_14, li_15, li_16, li_17, li_18, li_19, li_20, li_30, li_31, li_32, li_33, li_40, li_41, li_42, li_43, li_45, li_48, li_56, li_57, li_59, li_60, li_61, li_64, li_91, li_97, li_99, li_100, li_122, li_150, li_160, li_200, li_201, li_255, li_300, li_303, li_304, li_305, li_306, li_312, li_400, li_500, li_999, li_1003, li_3099, li_99999, li_100000, li_1000000, li_65, li_23, li_neg]); (try simp (disch := omega) only [f_X5_joins, b_X5_joins_116, ic_le_f, ic_le_t, ic_lt_f, ic_lt_t, ic_eq_f, ic_eq_t, ic_im, ic_mi, ic_mm_t, ic_mm_f, ic_mlt, ic_mle, ic_ilem, ic_iltm, ic_mmle_t, ic_mmle_f, pu_add, pu_mul, pu_in, pu_ck, pu_let, pu_cl, pu_cpok, pu_inr, Option.bind_some, ite_true, ite_false, pu_dm, pu_dv, pu_sub, nt_dm, if_true, if_false]))
        rfl)
    · obtain ⟨d1, d2⟩ := h1b (Or.inr rfl)
      have e2 : evS f 19 (h, s) = (h, upd s (h - 1) (-(s (h - 1)))) := rfl
      obtain ⟨g1, g2, g3⟩ := h209 _ d1 d2 e2
      refine ⟨_, ?_, g2, g3⟩
      rcases hun 200 (by omega) rfl with w | w
      · rw [w]
        unfold b_X5_says_155 b_X5_says_171
        simp only [li_0, li_1, li_2, li_3, li_4, li_5, li_6, li_7, li_8, li_9, li_10, li_11, li_12, li_13, li_14, li_15, li_16, li_17, li_18, li_19, li_20, li_30, li_31, li_32, li_33, li_40, li_41, li_42, li_43, li_45, li_48, li_56, li_57, li_59, li_60, li_61, li_64, li_91, li_97, li_99, li_100, li_122, li_150, li_160, li_200, li_201, li_255, li_300, li_303, li_304, li_305, li_306, li_312, li_400, li_500, li_999, li_1003, li_3099, li_99999, li_100000, li_1000000, li_65, li_23, li_neg]
        rw [if_pos trivial, ic_lt_f d1 (by omega), pu_sub d1, pu_in (by omega) (by omega), pu_ck, pu_cl (by omega), pu_let, htop d1, if_pos trivial, g1]
      · omega
