/-! PURE: the reference's house -/
def RA (m : qaM) (n : Nat) (A : Nat → AL) : Prop := (∀ i : Nat, i < n → m 37 i = nI (A i 0)) ∧ (∀ i : Nat, i < n → m 38 i = nI (A i 1)) ∧ (∀ i k : Nat, i < n → k < 6 → (k = 4 → A i 7 = 0) → m 39 (6 * i + k) = nI (A i (k + 2)))
def RP (m : qaM) (P : List Nat) : Prop := m 36 5 = nI P.length ∧ P.length ≤ 8 ∧ ∀ j : Nat, j < P.length → m 40 j = nI (P.getD j 0)
def MH (m : qaM) (H : HS) : Prop := RA m H.n H.A ∧ RP m H.P ∧ (∀ k : Nat, k < 4 → m 41 k = nI (H.R k)) ∧ m 36 0 = nI H.n ∧ m 36 7 = nI H.wk ∧ m 36 13 = nI H.lw
theorem RA.F {m m2 : qaM} {n : Nat} {A : Nat → AL} {l : List Nat} (h : RA m n A) (hf : qF l m m2) (h1 : 37 ∉ l) (h2 : 38 ∉ l) (h3 : 39 ∉ l) : RA m2 n A := by
  unfold RA
  rw [hf _ h1, hf _ h2, hf _ h3]
  exact h
/-- what of the object's fields stays -/
theorem MH.F {m m2 : qaM} {H : HS} {l : List Nat} (h : MH m H) (hf : qF l m m2) (h1 : 37 ∉ l) (h2 : 38 ∉ l) (h3 : 39 ∉ l) (h4 : 40 ∉ l) (h5 : 41 ∉ l) (e0 : m2 36 0 = m 36 0) (e5 : m2 36 5 = m 36 5) (e7 : m2 36 7 = m 36 7) (e13 : m2 36 13 = m 36 13) : MH m2 H := by
  refine ⟨h.1.F hf h1 h2 h3, ?_, ?_⟩
  · unfold RP
    rw [e5, hf _ h4]
    exact h.2.1
  · rw [hf _ h5, e0, e7, e13]
    exact h.2.2
theorem MH.F2 {m m2 : qaM} {H : HS} {l : List Nat} (h : MH m H) (hf : qF l m m2) (h0 : 36 ∉ l) (h1 : 37 ∉ l) (h2 : 38 ∉ l) (h3 : 39 ∉ l) (h4 : 40 ∉ l) (h5 : 41 ∉ l) : MH m2 H :=
  h.F hf h1 h2 h3 h4 h5 (by rw [hf _ h0]) (by rw [hf _ h0]) (by rw [hf _ h0]) (by rw [hf _ h0])
/-- a pile of its own -/
theorem MH.P2 {m m2 : qaM} {H : HS} {P : List Nat} (h : MH m H) (hf : qF [36, 40] m m2) (hp : RP m2 P) (e0 : m2 36 0 = m 36 0) (e7 : m2 36 7 = m 36 7) (e13 : m2 36 13 = m 36 13) : MH m2 (H.setP P) := by
  refine ⟨h.1.F hf (by decide) (by decide) (by decide), hp, ?_⟩
  rw [hf 41 (by decide), e0, e7, e13]
  exact h.2.2
/-- the object's fields but one number -/
def o36 (k : Nat) (m m2 : qaM) : Prop := ∀ a : Nat, a ≠ k → m2 36 a = m 36 a
theorem r7laysAt {m : qaM} {i k : Nat} {P : List Nat} (h : RP m P) (hk : k ≤ P.length) (hl : P.length < 8) : ∃ m2, f_X7_laysAt m (nI i) (nI k) = some m2 ∧ RP m2 (insA P k i) ∧ qF [36, 40] m m2 ∧ o36 5 m m2 := by
  obtain ⟨r, h1, h2⟩ := lp_at (f := fun s : qaM × Int32 => b_X7_laysAt_5 s.1 (nI i) (nI k) s.2) (fun j s => j ≤ P.length - k ∧ s.2 = nI (P.length - j) ∧ qF [40] m s.1 ∧ (∀ a : Nat, a ≤ P.length → s.1 40 a = if P.length - j < a then m 40 (a - 1) else m 40 a))
    (fun m2 => RP m2 (insA P k i) ∧ qF [36, 40] m m2 ∧ o36 5 m m2) (P.length - k) (s := (m, nI P.length)) ⟨Nat.zero_le _, rfl, qF.rf _ _, fun a ha => by rw [if_neg (by omega)]⟩ (by omega) (by
    rintro j ⟨x, c⟩ hj ⟨_, hc, hf, ha⟩
    have hc2 : c = nI (P.length - j) := hc
    replace hf : qF [40] m x := hf
    replace ha : ∀ a : Nat, a ≤ P.length → x 40 a = if P.length - j < a then m 40 (a - 1) else m 40 a := ha
    subst hc2
    rcases Nat.lt_or_ge j (P.length - k) with q | q
    · refine Or.inl ⟨(qa_st x 40 (P.length - j) (x 40 (P.length - j - 1)), nI (P.length - (j + 1))), ?_, q, q, rfl, hf.t2 (qF.st _ _ _ _) (by simp), fun a hal => ?_⟩
      · show b_X7_laysAt_5 x (nI i) (nI k) (nI (P.length - j)) = _
        unfold b_X7_laysAt_5
        ((try simp only [li_0, li_1, li_2, li_3, li_4, li_5, li_6, li_7, li_8, li_9, li_10, li_11, li_12, li_13, li_14, li_15, li_16, li_17, li_18, li_19, li_20, li_30, li_31, li_32, li_33, li_40, li_41, li_42, li_43, li_45, li_48, li_56, li_57, li_59, li_60, li_61, li_64, li_91, li_97, li_99, li_100, li_122, li_150, li_160, li_200, li_201, li_255, li_300, li_303, li_304, li_305, li_306, li_312, li_400, li_500, li_999, li_1003, li_3099, li_99999, li_100000, li_neg]); simp (disch := omega) only [ic_le_f, ic_le_t, ic_lt_f, ic_lt_t, ic_eq_f, ic_eq_t, ic_im, ic_mi, ic_mm_t, ic_mm_f, ic_mlt, ic_mle, ic_ilem, ic_iltm, ic_mmle_t, ic_mmle_f, pu_add, pu_mul, pu_in, pu_ck, pu_let, pu_cl, pu_cpok, pu_inr, Option.bind_some, ite_true, ite_false])
        rw [pu_sub (by omega)]
        ((try simp only [li_0, li_1, li_2, li_3, li_4, li_5, li_6, li_7, li_8, li_9, li_10, li_11, li_12, li_13, li_14, li_15, li_16, li_17, li_18, li_19, li_20, li_30, li_31, li_32, li_33, li_40, li_41, li_42, li_43, li_45, li_48, li_56, li_57, li_59, li_60, li_61, li_64, li_91, li_97, li_99, li_100, li_122, li_150, li_160, li_200, li_201, li_255, li_300, li_303, li_304, li_305, li_306, li_312, li_400, li_500, li_999, li_1003, li_3099, li_99999, li_100000, li_neg]); simp (disch := omega) only [ic_le_f, ic_le_t, ic_lt_f, ic_lt_t, ic_eq_f, ic_eq_t, ic_im, ic_mi, ic_mm_t, ic_mm_f, ic_mlt, ic_mle, ic_ilem, ic_iltm, ic_mmle_t, ic_mmle_f, pu_add, pu_mul, pu_in, pu_ck, pu_let, pu_cl, pu_cpok, pu_inr, Option.bind_some, ite_true, ite_false])
        obtain ⟨p, hp⟩ : ∃ p, P.length - j = p + 1 := ⟨P.length - j - 1, by omega⟩
        have hp2 : P.length - (j + 1) = p := by omega
        rw [hp, hp2, plI_p, plI_s]
      · show qa_st x 40 (P.length - j) (x 40 (P.length - j - 1)) 40 a = _
        rw [st_s]
        by_cases qa : a = P.length - j
        · rw [qa, up_s, ha _ (by omega), if_neg (by omega), if_pos (by omega)]
        · rw [up_n qa, ha a hal]
          by_cases q2 : P.length - j < a
          · rw [if_pos q2, if_pos (by omega)]
          · rw [if_neg q2, if_neg (by omega)]
    · have hjk : P.length - j = k := by omega
      have hx5 : x 36 5 = nI P.length := by
        rw [hf 36 (by decide)]
        exact h.1
      refine Or.inr ⟨qa_st (qa_st x 40 k (nI i)) 36 5 (nI (P.length + 1)), ?_, ⟨?_, ?_, fun a hal => ?_⟩, ?_, fun a hal => ?_⟩
      · show b_X7_laysAt_5 x (nI i) (nI k) (nI (P.length - j)) = _
        unfold b_X7_laysAt_5 b_X7_laysAt_30
        rw [hjk]
        ((try simp only [li_0, li_1, li_2, li_3, li_4, li_5, li_6, li_7, li_8, li_9, li_10, li_11, li_12, li_13, li_14, li_15, li_16, li_17, li_18, li_19, li_20, li_30, li_31, li_32, li_33, li_40, li_41, li_42, li_43, li_45, li_48, li_56, li_57, li_59, li_60, li_61, li_64, li_91, li_97, li_99, li_100, li_122, li_150, li_160, li_200, li_201, li_255, li_300, li_303, li_304, li_305, li_306, li_312, li_400, li_500, li_999, li_1003, li_3099, li_99999, li_100000, li_neg]); simp (disch := omega) only [ic_le_f, ic_le_t, ic_lt_f, ic_lt_t, ic_eq_f, ic_eq_t, ic_im, ic_mi, ic_mm_t, ic_mm_f, ic_mlt, ic_mle, ic_ilem, ic_iltm, ic_mmle_t, ic_mmle_f, pu_add, pu_mul, pu_in, pu_ck, pu_let, pu_cl, pu_cpok, pu_inr, Option.bind_some, ite_true, ite_false])
        rw [st_n (by omega), hx5, pu_add]
      · rw [st_s, up_s, insA_len hk]
      · rw [insA_len hk]
        omega
      · rw [insA_len hk] at hal
        rw [st_n (by omega), st_s]
        rcases Nat.lt_trichotomy a k with z | z | z
        · rw [up_n (by omega), ha a (by omega), if_neg (by omega), insA_lt hk z]
          exact h.2.2 a (by omega)
        · rw [z, up_s, insA_eq hk]
        · rw [up_n (by omega), ha a (by omega), if_pos (by omega), insA_gt hk z]
          exact h.2.2 (a - 1) (by omega)
      · exact ((hf.mo (by simp)).t2 (qF.st _ _ _ _) (by simp)).t2 (qF.st _ _ _ _) (by simp)
      · rw [st_s, up_n hal, st_n (by omega), hf 36 (by decide)])
  refine ⟨r, ?_, h2⟩
  unfold f_X7_laysAt
  rw [h.1, pu_let, lp_X7_laysAt_5, h1]
theorem r7within {m : qaM} {a b : Nat} (ha : a < 2 ^ 31) (hb : b < 2 ^ 31) : f_X7_within m (nI a) (nI 0) (nI b) = some (nI (mnN b a)) := by
  unfold f_X7_within mnN
  by_cases q : a < b
  · rw [if_pos q]
    ((try simp only [li_0, li_1, li_2, li_3, li_4, li_5, li_6, li_7, li_8, li_9, li_10, li_11, li_12, li_13, li_14, li_15, li_16, li_17, li_18, li_19, li_20, li_30, li_31, li_32, li_33, li_40, li_41, li_42, li_43, li_45, li_48, li_56, li_57, li_59, li_60, li_61, li_64, li_91, li_97, li_99, li_100, li_122, li_150, li_160, li_200, li_201, li_255, li_300, li_303, li_304, li_305, li_306, li_312, li_400, li_500, li_999, li_1003, li_3099, li_99999, li_100000, li_neg]); simp (disch := omega) only [ic_le_f, ic_le_t, ic_lt_f, ic_lt_t, ic_eq_f, ic_eq_t, ic_im, ic_mi, ic_mm_t, ic_mm_f, ic_mlt, ic_mle, ic_ilem, ic_iltm, ic_mmle_t, ic_mmle_f, pu_add, pu_mul, pu_in, pu_ck, pu_let, pu_cl, pu_cpok, pu_inr, Option.bind_some, ite_true, ite_false])
  · rw [if_neg q]
    rcases Nat.lt_or_ge b a with z | z
    · ((try simp only [li_0, li_1, li_2, li_3, li_4, li_5, li_6, li_7, li_8, li_9, li_10, li_11, li_12, li_13, li_14, li_15, li_16, li_17, li_18, li_19, li_20, li_30, li_31, li_32, li_33, li_40, li_41, li_42, li_43, li_45, li_48, li_56, li_57, li_59, li_60, li_61, li_64, li_91, li_97, li_99, li_100, li_122, li_150, li_160, li_200, li_201, li_255, li_300, li_303, li_304, li_305, li_306, li_312, li_400, li_500, li_999, li_1003, li_3099, li_99999, li_100000, li_neg]); simp (disch := omega) only [ic_le_f, ic_le_t, ic_lt_f, ic_lt_t, ic_eq_f, ic_eq_t, ic_im, ic_mi, ic_mm_t, ic_mm_f, ic_mlt, ic_mle, ic_ilem, ic_iltm, ic_mmle_t, ic_mmle_f, pu_add, pu_mul, pu_in, pu_ck, pu_let, pu_cl, pu_cpok, pu_inr, Option.bind_some, ite_true, ite_false])
    · rw [show a = b by omega]
      ((try simp only [li_0, li_1, li_2, li_3, li_4, li_5, li_6, li_7, li_8, li_9, li_10, li_11, li_12, li_13, li_14, li_15, li_16, li_17, li_18, li_19, li_20, li_30, li_31, li_32, li_33, li_40, li_41, li_42, li_43, li_45, li_48, li_56, li_57, li_59, li_60, li_61, li_64, li_91, li_97, li_99, li_100, li_122, li_150, li_160, li_200, li_201, li_255, li_300, li_303, li_304, li_305, li_306, li_312, li_400, li_500, li_999, li_1003, li_3099, li_99999, li_100000, li_neg]); simp (disch := omega) only [ic_le_f, ic_le_t, ic_lt_f, ic_lt_t, ic_eq_f, ic_eq_t, ic_im, ic_mi, ic_mm_t, ic_mm_f, ic_mlt, ic_mle, ic_ilem, ic_iltm, ic_mmle_t, ic_mmle_f, pu_add, pu_mul, pu_in, pu_ck, pu_let, pu_cl, pu_cpok, pu_inr, Option.bind_some, ite_true, ite_false])
theorem r7lays {m : qaM} {i : Nat} {H : HS} (c : MH m H) (hi : i < 8) (hl : H.P.length < 8) (hb : ∀ x ∈ H.P, x < 8) (hr : H.R 3 ≤ 2) : ∃ m2, f_X7_lays m (nI i) = some m2 ∧ MH m2 (H.lay i) ∧ qF [36, 40] m m2 ∧ o36 5 m m2 := by
  have h3 := c.2.2.1 3 (by omega)
  have hP := c.2.1
  have hend : ∀ k : Nat, k ≤ H.P.length → ∃ m2, b_X7_lays_59 m (nI i) (nI k) = some m2 ∧ MH m2 (H.setP (insA H.P k i)) ∧ qF [36, 40] m m2 ∧ o36 5 m m2 := by
    intro k hk
    obtain ⟨m2, e1, e2, e3, e4⟩ := r7laysAt (i := i) hP hk hl
    refine ⟨m2, ?_, c.P2 e3 e2 (e4 0 (by decide)) (e4 7 (by decide)) (e4 13 (by decide)), e3, e4⟩
    rw [b_X7_lays_59, e1, Option.bind_some]
  have hone : ∀ k : Nat, H.R 3 ≠ 2 → k ≤ H.P.length → ∃ m2, lp_X7_lays_19 m (nI i) (nI k) = some m2 ∧ MH m2 (H.setP (insA H.P k i)) ∧ qF [36, 40] m m2 ∧ o36 5 m m2 := by
    intro k hr2 hk
    obtain ⟨m2, e1, e2⟩ := hend k hk
    refine ⟨m2, ?_, e2⟩
    show qa_lp (fun s => b_X7_lays_19 m (nI i) s) 2000 (nI k) = some m2
    rw [qa_lp]
    have : b_X7_lays_19 m (nI i) (nI k) = some (.inr m2) := by
      unfold b_X7_lays_19
      rw [h3]
      ((try simp only [li_0, li_1, li_2, li_3, li_4, li_5, li_6, li_7, li_8, li_9, li_10, li_11, li_12, li_13, li_14, li_15, li_16, li_17, li_18, li_19, li_20, li_30, li_31, li_32, li_33, li_40, li_41, li_42, li_43, li_45, li_48, li_56, li_57, li_59, li_60, li_61, li_64, li_91, li_97, li_99, li_100, li_122, li_150, li_160, li_200, li_201, li_255, li_300, li_303, li_304, li_305, li_306, li_312, li_400, li_500, li_999, li_1003, li_3099, li_99999, li_100000, li_neg]); simp (disch := omega) only [ic_le_f, ic_le_t, ic_lt_f, ic_lt_t, ic_eq_f, ic_eq_t, ic_im, ic_mi, ic_mm_t, ic_mm_f, ic_mlt, ic_mle, ic_ilem, ic_iltm, ic_mmle_t, ic_mmle_f, pu_add, pu_mul, pu_in, pu_ck, pu_let, pu_cl, pu_cpok, pu_inr, Option.bind_some, ite_true, ite_false])
      rw [e1, pu_inr]
    rw [this]
  unfold f_X7_lays HS.lay layK
  rw [h3]
  by_cases q1 : H.R 3 = 1
  · obtain ⟨m2, e1, e2⟩ := hone _ (by omega) (Nat.le_refl _)
    rw [if_pos q1]
    refine ⟨m2, ?_, e2⟩
    rw [q1]
    ((try simp only [b_X7_lays_18, hP.1, li_0, li_1, li_2, li_3, li_4, li_5, li_6, li_7, li_8, li_9, li_10, li_11, li_12, li_13, li_14, li_15, li_16, li_17, li_18, li_19, li_20, li_30, li_31, li_32, li_33, li_40, li_41, li_42, li_43, li_45, li_48, li_56, li_57, li_59, li_60, li_61, li_64, li_91, li_97, li_99, li_100, li_122, li_150, li_160, li_200, li_201, li_255, li_300, li_303, li_304, li_305, li_306, li_312, li_400, li_500, li_999, li_1003, li_3099, li_99999, li_100000, li_neg]); simp (disch := omega) only [b_X7_lays_18, hP.1, ic_le_f, ic_le_t, ic_lt_f, ic_lt_t, ic_eq_f, ic_eq_t, ic_im, ic_mi, ic_mm_t, ic_mm_f, ic_mlt, ic_mle, ic_ilem, ic_iltm, ic_mmle_t, ic_mmle_f, pu_add, pu_mul, pu_in, pu_ck, pu_let, pu_cl, pu_cpok, pu_inr, Option.bind_some, ite_true, ite_false])
    exact e1
  rw [if_neg q1]
  by_cases q0 : H.R 3 = 0
  · obtain ⟨m2, e1, e2⟩ := hone 0 (by omega) (Nat.zero_le _)
    rw [if_pos q0]
    refine ⟨m2, ?_, e2⟩
    rw [q0]
    ((try simp only [b_X7_lays_18, li_0, li_1, li_2, li_3, li_4, li_5, li_6, li_7, li_8, li_9, li_10, li_11, li_12, li_13, li_14, li_15, li_16, li_17, li_18, li_19, li_20, li_30, li_31, li_32, li_33, li_40, li_41, li_42, li_43, li_45, li_48, li_56, li_57, li_59, li_60, li_61, li_64, li_91, li_97, li_99, li_100, li_122, li_150, li_160, li_200, li_201, li_255, li_300, li_303, li_304, li_305, li_306, li_312, li_400, li_500, li_999, li_1003, li_3099, li_99999, li_100000, li_neg]); simp (disch := omega) only [b_X7_lays_18, ic_le_f, ic_le_t, ic_lt_f, ic_lt_t, ic_eq_f, ic_eq_t, ic_im, ic_mi, ic_mm_t, ic_mm_f, ic_mlt, ic_mle, ic_ilem, ic_iltm, ic_mmle_t, ic_mmle_f, pu_add, pu_mul, pu_in, pu_ck, pu_let, pu_cl, pu_cpok, pu_inr, Option.bind_some, ite_true, ite_false])
    exact e1
  rw [if_neg q0]
  have q2 : H.R 3 = 2 := by omega
  obtain ⟨r, h1, h2⟩ := lp_at (f := fun s : Int32 => b_X7_lays_19 m (nI i) s) (fun j s => s = nI j ∧ ∀ a : Nat, a < j → H.P.getD a 0 < i) (fun m2 => MH m2 (H.setP (insA H.P (H.P.findIdx (fun x => decide (i ≤ x))) i)) ∧ qF [36, 40] m m2 ∧ o36 5 m m2) H.P.length (s := nI 0) ⟨rfl, fun a q => by omega⟩ (by omega) (by
    rintro j s hj ⟨rfl, hlt⟩
    unfold b_X7_lays_19
    rw [h3, q2, hP.1]
    rcases Nat.lt_or_ge j H.P.length with q | q
    · have hx := hb _ (getD_mem q)
      have hj8 : mnN 8 j = j := by
        unfold mnN
        rw [if_pos (by omega)]
      rcases Nat.lt_or_ge (H.P.getD j 0) i with g | g
      · refine Or.inl ⟨nI (j + 1), ?_, q, rfl, fun a ha => ?_⟩
        · ((try simp only [li_0, li_1, li_2, li_3, li_4, li_5, li_6, li_7, li_8, li_9, li_10, li_11, li_12, li_13, li_14, li_15, li_16, li_17, li_18, li_19, li_20, li_30, li_31, li_32, li_33, li_40, li_41, li_42, li_43, li_45, li_48, li_56, li_57, li_59, li_60, li_61, li_64, li_91, li_97, li_99, li_100, li_122, li_150, li_160, li_200, li_201, li_255, li_300, li_303, li_304, li_305, li_306, li_312, li_400, li_500, li_999, li_1003, li_3099, li_99999, li_100000, li_neg]); simp (disch := omega) only [ic_le_f, ic_le_t, ic_lt_f, ic_lt_t, ic_eq_f, ic_eq_t, ic_im, ic_mi, ic_mm_t, ic_mm_f, ic_mlt, ic_mle, ic_ilem, ic_iltm, ic_mmle_t, ic_mmle_f, pu_add, pu_mul, pu_in, pu_ck, pu_let, pu_cl, pu_cpok, pu_inr, Option.bind_some, ite_true, ite_false])
          rw [r7within (by omega) (by omega), hj8]
          ((try simp only [li_0, li_1, li_2, li_3, li_4, li_5, li_6, li_7, li_8, li_9, li_10, li_11, li_12, li_13, li_14, li_15, li_16, li_17, li_18, li_19, li_20, li_30, li_31, li_32, li_33, li_40, li_41, li_42, li_43, li_45, li_48, li_56, li_57, li_59, li_60, li_61, li_64, li_91, li_97, li_99, li_100, li_122, li_150, li_160, li_200, li_201, li_255, li_300, li_303, li_304, li_305, li_306, li_312, li_400, li_500, li_999, li_1003, li_3099, li_99999, li_100000, li_neg]); simp (disch := omega) only [ic_le_f, ic_le_t, ic_lt_f, ic_lt_t, ic_eq_f, ic_eq_t, ic_im, ic_mi, ic_mm_t, ic_mm_f, ic_mlt, ic_mle, ic_ilem, ic_iltm, ic_mmle_t, ic_mmle_f, pu_add, pu_mul, pu_in, pu_ck, pu_let, pu_cl, pu_cpok, pu_inr, Option.bind_some, ite_true, ite_false])
          rw [hP.2.2 j q]
          ((try simp only [li_0, li_1, li_2, li_3, li_4, li_5, li_6, li_7, li_8, li_9, li_10, li_11, li_12, li_13, li_14, li_15, li_16, li_17, li_18, li_19, li_20, li_30, li_31, li_32, li_33, li_40, li_41, li_42, li_43, li_45, li_48, li_56, li_57, li_59, li_60, li_61, li_64, li_91, li_97, li_99, li_100, li_122, li_150, li_160, li_200, li_201, li_255, li_300, li_303, li_304, li_305, li_306, li_312, li_400, li_500, li_999, li_1003, li_3099, li_99999, li_100000, li_neg]); simp (disch := omega) only [ic_le_f, ic_le_t, ic_lt_f, ic_lt_t, ic_eq_f, ic_eq_t, ic_im, ic_mi, ic_mm_t, ic_mm_f, ic_mlt, ic_mle, ic_ilem, ic_iltm, ic_mmle_t, ic_mmle_f, pu_add, pu_mul, pu_in, pu_ck, pu_let, pu_cl, pu_cpok, pu_inr, Option.bind_some, ite_true, ite_false])
        · rcases Nat.lt_or_ge a j with q2 | q2
          · exact hlt a q2
          · rw [show a = j by omega]
            exact g
      · obtain ⟨m2, e1, e2⟩ := hend j hj
        have hk : H.P.findIdx (fun x => decide (i ≤ x)) = j := by
          rw [List.findIdx_eq q]
          refine ⟨?_, fun a ha => ?_⟩
          · rw [List.getD_eq_getElem?_getD, List.getElem?_eq_getElem q, Option.getD_some] at g
            exact decide_eq_true g
          · have := hlt a ha
            rw [List.getD_eq_getElem?_getD, List.getElem?_eq_getElem (by omega), Option.getD_some] at this
            exact decide_eq_false (by omega)
        refine Or.inr ⟨m2, ?_, by rw [hk]; exact e2⟩
        ((try simp only [li_0, li_1, li_2, li_3, li_4, li_5, li_6, li_7, li_8, li_9, li_10, li_11, li_12, li_13, li_14, li_15, li_16, li_17, li_18, li_19, li_20, li_30, li_31, li_32, li_33, li_40, li_41, li_42, li_43, li_45, li_48, li_56, li_57, li_59, li_60, li_61, li_64, li_91, li_97, li_99, li_100, li_122, li_150, li_160, li_200, li_201, li_255, li_300, li_303, li_304, li_305, li_306, li_312, li_400, li_500, li_999, li_1003, li_3099, li_99999, li_100000, li_neg]); simp (disch := omega) only [ic_le_f, ic_le_t, ic_lt_f, ic_lt_t, ic_eq_f, ic_eq_t, ic_im, ic_mi, ic_mm_t, ic_mm_f, ic_mlt, ic_mle, ic_ilem, ic_iltm, ic_mmle_t, ic_mmle_f, pu_add, pu_mul, pu_in, pu_ck, pu_let, pu_cl, pu_cpok, pu_inr, Option.bind_some, ite_true, ite_false])
        rw [r7within (by omega) (by omega), hj8]
        ((try simp only [li_0, li_1, li_2, li_3, li_4, li_5, li_6, li_7, li_8, li_9, li_10, li_11, li_12, li_13, li_14, li_15, li_16, li_17, li_18, li_19, li_20, li_30, li_31, li_32, li_33, li_40, li_41, li_42, li_43, li_45, li_48, li_56, li_57, li_59, li_60, li_61, li_64, li_91, li_97, li_99, li_100, li_122, li_150, li_160, li_200, li_201, li_255, li_300, li_303, li_304, li_305, li_306, li_312, li_400, li_500, li_999, li_1003, li_3099, li_99999, li_100000, li_neg]); simp (disch := omega) only [ic_le_f, ic_le_t, ic_lt_f, ic_lt_t, ic_eq_f, ic_eq_t, ic_im, ic_mi, ic_mm_t, ic_mm_f, ic_mlt, ic_mle, ic_ilem, ic_iltm, ic_mmle_t, ic_mmle_f, pu_add, pu_mul, pu_in, pu_ck, pu_let, pu_cl, pu_cpok, pu_inr, Option.bind_some, ite_true, ite_false])
        rw [hP.2.2 j q]
        ((try simp only [li_0, li_1, li_2, li_3, li_4, li_5, li_6, li_7, li_8, li_9, li_10, li_11, li_12, li_13, li_14, li_15, li_16, li_17, li_18, li_19, li_20, li_30, li_31, li_32, li_33, li_40, li_41, li_42, li_43, li_45, li_48, li_56, li_57, li_59, li_60, li_61, li_64, li_91, li_97, li_99, li_100, li_122, li_150, li_160, li_200, li_201, li_255, li_300, li_303, li_304, li_305, li_306, li_312, li_400, li_500, li_999, li_1003, li_3099, li_99999, li_100000, li_neg]); simp (disch := omega) only [ic_le_f, ic_le_t, ic_lt_f, ic_lt_t, ic_eq_f, ic_eq_t, ic_im, ic_mi, ic_mm_t, ic_mm_f, ic_mlt, ic_mle, ic_ilem, ic_iltm, ic_mmle_t, ic_mmle_f, pu_add, pu_mul, pu_in, pu_ck, pu_let, pu_cl, pu_cpok, pu_inr, Option.bind_some, ite_true, ite_false])
        rw [e1, pu_inr]
    · have hjl : j = H.P.length := by omega
      obtain ⟨m2, e1, e2⟩ := hend j hj
      have hk : H.P.findIdx (fun x => decide (i ≤ x)) = j := by
        rw [hjl]
        refine List.findIdx_eq_length.mpr (fun x hx => ?_)
        obtain ⟨a, ha, e⟩ := List.getElem_of_mem hx
        have := hlt a (by omega)
        rw [List.getD_eq_getElem?_getD, List.getElem?_eq_getElem ha, Option.getD_some, e] at this
        exact decide_eq_false (by omega)
      refine Or.inr ⟨m2, ?_, by rw [hk]; exact e2⟩
      ((try simp only [li_0, li_1, li_2, li_3, li_4, li_5, li_6, li_7, li_8, li_9, li_10, li_11, li_12, li_13, li_14, li_15, li_16, li_17, li_18, li_19, li_20, li_30, li_31, li_32, li_33, li_40, li_41, li_42, li_43, li_45, li_48, li_56, li_57, li_59, li_60, li_61, li_64, li_91, li_97, li_99, li_100, li_122, li_150, li_160, li_200, li_201, li_255, li_300, li_303, li_304, li_305, li_306, li_312, li_400, li_500, li_999, li_1003, li_3099, li_99999, li_100000, li_neg]); simp (disch := omega) only [ic_le_f, ic_le_t, ic_lt_f, ic_lt_t, ic_eq_f, ic_eq_t, ic_im, ic_mi, ic_mm_t, ic_mm_f, ic_mlt, ic_mle, ic_ilem, ic_iltm, ic_mmle_t, ic_mmle_f, pu_add, pu_mul, pu_in, pu_ck, pu_let, pu_cl, pu_cpok, pu_inr, Option.bind_some, ite_true, ite_false])
      rw [e1, pu_inr])
  refine ⟨r, ?_, h2⟩
  rw [q2]
  ((try simp only [b_X7_lays_18, li_0, li_1, li_2, li_3, li_4, li_5, li_6, li_7, li_8, li_9, li_10, li_11, li_12, li_13, li_14, li_15, li_16, li_17, li_18, li_19, li_20, li_30, li_31, li_32, li_33, li_40, li_41, li_42, li_43, li_45, li_48, li_56, li_57, li_59, li_60, li_61, li_64, li_91, li_97, li_99, li_100, li_122, li_150, li_160, li_200, li_201, li_255, li_300, li_303, li_304, li_305, li_306, li_312, li_400, li_500, li_999, li_1003, li_3099, li_99999, li_100000, li_neg]); simp (disch := omega) only [b_X7_lays_18, ic_le_f, ic_le_t, ic_lt_f, ic_lt_t, ic_eq_f, ic_eq_t, ic_im, ic_mi, ic_mm_t, ic_mm_f, ic_mlt, ic_mle, ic_ilem, ic_iltm, ic_mmle_t, ic_mmle_f, pu_add, pu_mul, pu_in, pu_ck, pu_let, pu_cl, pu_cpok, pu_inr, Option.bind_some, ite_true, ite_false])
  exact h1
