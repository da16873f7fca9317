/-! PURE: the class's house -/
def cF (A : Nat → AL) (i k : Nat) : Int32 := if k = 6 ∧ A i 7 = 1 then nM 1 else nI (A i k)
def CH (m : qaM) (h : Nat) (H : HS) : Prop := LA m (h + 1) H.n (cF H.A) ∧ PA m (h + 3) H.P ∧ (∀ k : Nat, k < 4 → m (h + 5) k = nI (H.R k)) ∧ m h 3 = nI H.wk ∧ m h 4 = nI H.lw
theorem LA.ext {m : qaM} {c n : Nat} {F G : Nat → Nat → Int32} (h : LA m c n F) (he : ∀ i k : Nat, i < 8 → k < 7 → F i k = G i k) : LA m c n G :=
  ⟨h.1, h.2.1, fun i k hi hk => (h.2.2 i k hi hk).trans (he i k hi hk)⟩
theorem CH.F {m m2 : qaM} {h : Nat} {H : HS} {l : List Nat} (c : CH m h H) (hf : qF l m m2) (h0 : h ∉ l) (h1 : h + 1 ∉ l) (h2 : h + 2 ∉ l) (h3 : h + 3 ∉ l) (h4 : h + 4 ∉ l) (h5 : h + 5 ∉ l) : CH m2 h H := by
  refine ⟨c.1.F hf h1 h2, c.2.1.F hf h3 h4, ?_⟩
  rw [hf _ h5, hf _ h0]
  exact c.2.2
theorem cF_n {A : Nat → AL} {i k : Nat} (h : k ≠ 6) : cF A i k = nI (A i k) := if_neg (fun q => h q.1)
theorem cfact {m : qaM} {h i k : Nat} {H : HS} (c : CH m h H) (hi : i < 8) (hk : k < 7) (h6 : k ≠ 6) : f_X1_fact (h + 1) m (nI i) (nI k) = some (nI (H.A i k)) := by
  rw [fact_ok c.1 hi hk, cF_n h6]
theorem cfact6 {m : qaM} {h i : Nat} {H : HS} (c : CH m h H) (hi : i < 8) : f_X1_fact (h + 1) m (nI i) (nI 6) = some (if H.A i 7 = 1 then nM 1 else nI (H.A i 6)) := by
  rw [fact_ok c.1 hi (by omega)]
  unfold cF
  by_cases q : H.A i 7 = 1
  · rw [if_pos q, if_pos ⟨rfl, q⟩]
  · rw [if_neg q, if_neg (fun r => q r.2)]
/-- the pile, the rules, the week and the law don't hang on the facts' cell -/
theorem CH.A2 {m m2 : qaM} {h : Nat} {H H2 : HS} (c : CH m h H) (hf : qF [h + 2] m m2) (hl : LA m2 (h + 1) H2.n (cF H2.A)) (e1 : H2.P = H.P) (e2 : H2.R = H.R) (e3 : H2.wk = H.wk) (e4 : H2.lw = H.lw) : CH m2 h H2 := by
  refine ⟨hl, ?_, ?_⟩
  · rw [e1]
    exact c.2.1.F hf (by simp) (by simp)
  · rw [e2, e3, e4, hf _ (by simp), hf _ (by simp)]
    exact c.2.2
theorem cnotes {m : qaM} {h i k v : Nat} {H : HS} (c : CH m h H) (hi : i < 8) (hk : k < 7) (h6 : k = 6 → H.A i 7 = 0) : ∃ m2, f_X1_notes (h + 1) m (nI i) (nI k) (nI v) = some m2 ∧ CH m2 h (H.setA i (aU (H.A i) k v)) ∧ qF [h + 2] m m2 := by
  obtain ⟨m2, h1, h2, h3⟩ := notes_ok (v := nI v) c.1 hi hk
  refine ⟨m2, h1, c.A2 h3 (h2.ext (fun a b ha hb => ?_)) rfl rfl rfl rfl, h3⟩
  unfold fU cF
  by_cases q : a = i
  · subst q
    rw [setA_s]
    by_cases qk : b = k
    · subst qk
      rw [if_pos ⟨rfl, rfl⟩, aU_s, aU_n (j := 7) (by omega), if_neg (fun q => by have := h6 q.1; omega)]
    · rw [if_neg (fun q => qk q.2), aU_n qk]
      by_cases q7 : k = 7
      · omega
      · rw [aU_n (j := 7) (by omega)]
  · rw [if_neg (fun r => q r.1), setA_n q]
theorem cnotesM {m : qaM} {h i : Nat} {H : HS} (c : CH m h H) (hi : i < 8) : ∃ m2, f_X1_notes (h + 1) m (nI i) (nI 6) (nM 1) = some m2 ∧ CH m2 h (H.setA i (aU (H.A i) 7 1)) ∧ qF [h + 2] m m2 := by
  obtain ⟨m2, h1, h2, h3⟩ := notes_ok (k := 6) (v := nM 1) c.1 hi (by omega)
  refine ⟨m2, h1, c.A2 h3 (h2.ext (fun a b ha hb => ?_)) rfl rfl rfl rfl, h3⟩
  unfold fU cF
  by_cases q : a = i
  · subst q
    rw [setA_s, aU_s]
    by_cases qk : b = 6
    · rw [if_pos ⟨rfl, qk⟩, if_pos ⟨qk, rfl⟩]
    · rw [if_neg (fun q => qk q.2), if_neg (fun q => qk q.1), aU_n (j := b) (by omega), if_neg (fun q => qk q.1)]
  · rw [if_neg (fun r => q r.1), setA_n q]
/-- the pile anew -/
theorem CH.P2 {m m2 : qaM} {h : Nat} {H : HS} {P : List Nat} (c : CH m h H) (hf : qF [h + 3, h + 4] m m2) (hp : PA m2 (h + 3) P) : CH m2 h (H.setP P) := by
  refine ⟨c.1.F hf (by simp) (by simp), hp, ?_⟩
  rw [hf _ (by simp), hf _ (by simp)]
  exact c.2.2
theorem cinsert {m : qaM} {h k i : Nat} {H : HS} (c : CH m h H) (hk : k ≤ H.P.length) (hl : H.P.length < 8) : ∃ m2, f_X2_insertsAt (h + 3) m (nI k) (nI i) = some m2 ∧ CH m2 h (H.setP (insA H.P k i)) ∧ qF [h + 3, h + 4] m m2 := by
  obtain ⟨m2, h1, h2, h3⟩ := insertsAt_ok (i := i) c.2.1 hk hl
  exact ⟨m2, h1, c.P2 h3 h2, h3⟩
theorem cremove {m : qaM} {h k : Nat} {H : HS} (c : CH m h H) (hk : k < H.P.length) : ∃ m2, f_X2_removesAt (h + 3) m (nI k) = some (nI (H.P.getD k 0), m2) ∧ CH m2 h (H.setP (rmA H.P k)) ∧ qF [h + 3, h + 4] m m2 := by
  obtain ⟨m2, h1, h2, h3⟩ := removesAt_ok c.2.1 hk
  exact ⟨m2, h1, c.P2 h3 h2, h3⟩
theorem claysDown {m : qaM} {h i : Nat} {H : HS} (c : CH m h H) (hi : i < 8) (hl : H.P.length < 8) (hb : ∀ x ∈ H.P, x < 8) (hr : H.R 3 ≤ 2) : ∃ m2, f_X0_laysDown h m (nI i) = some m2 ∧ CH m2 h (H.lay i) ∧ qF [h + 3, h + 4] m m2 := by
  have h3 := c.2.2.1 3 (by omega)
  unfold f_X0_laysDown HS.lay layK
  rw [h3]
  by_cases q1 : H.R 3 = 1
  · rw [q1, if_pos rfl]
    obtain ⟨m2, e1, e2, e3⟩ := cinsert (i := i) c (Nat.le_refl _) hl
    refine ⟨m2, ?_, e2, e3⟩
    ((try simp only [c.2.1.1, b_X0_laysDown_72, li_0, li_1, li_2, li_3, li_4, li_5, li_6, li_7, li_8, li_9, li_10, li_11, li_12, li_13, li_14, li_15, li_16, li_17, li_18, li_19, li_20, li_30, li_31, li_32, li_33, li_40, li_41, li_42, li_43, li_45, li_48, li_56, li_57, li_59, li_60, li_61, li_64, li_91, li_97, li_99, li_100, li_122, li_150, li_160, li_200, li_201, li_255, li_300, li_303, li_304, li_305, li_306, li_312, li_400, li_500, li_999, li_1003, li_3099, li_99999, li_100000, li_neg]); simp (disch := omega) only [c.2.1.1, b_X0_laysDown_72, ic_le_f, ic_le_t, ic_lt_f, ic_lt_t, ic_eq_f, ic_eq_t, ic_im, ic_mi, ic_mm_t, ic_mm_f, ic_mlt, ic_mle, ic_ilem, ic_iltm, ic_mmle_t, ic_mmle_f, pu_add, pu_mul, pu_in, pu_ck, pu_let, pu_cl, pu_cpok, pu_inr, Option.bind_some, ite_true, ite_false])
    rw [e1, Option.bind_some]
  rw [if_neg q1]
  by_cases q0 : H.R 3 = 0
  · rw [q0, if_pos rfl]
    obtain ⟨m2, e1, e2, e3⟩ := cinsert (i := i) c (Nat.zero_le _) hl
    refine ⟨m2, ?_, e2, e3⟩
    ((try simp only [b_X0_laysDown_72, li_0, li_1, li_2, li_3, li_4, li_5, li_6, li_7, li_8, li_9, li_10, li_11, li_12, li_13, li_14, li_15, li_16, li_17, li_18, li_19, li_20, li_30, li_31, li_32, li_33, li_40, li_41, li_42, li_43, li_45, li_48, li_56, li_57, li_59, li_60, li_61, li_64, li_91, li_97, li_99, li_100, li_122, li_150, li_160, li_200, li_201, li_255, li_300, li_303, li_304, li_305, li_306, li_312, li_400, li_500, li_999, li_1003, li_3099, li_99999, li_100000, li_neg]); simp (disch := omega) only [b_X0_laysDown_72, ic_le_f, ic_le_t, ic_lt_f, ic_lt_t, ic_eq_f, ic_eq_t, ic_im, ic_mi, ic_mm_t, ic_mm_f, ic_mlt, ic_mle, ic_ilem, ic_iltm, ic_mmle_t, ic_mmle_f, pu_add, pu_mul, pu_in, pu_ck, pu_let, pu_cl, pu_cpok, pu_inr, Option.bind_some, ite_true, ite_false])
    rw [e1, Option.bind_some]
  rw [if_neg q0]
  obtain ⟨r, h1, h2⟩ := lp_at (f := fun s : Int32 × Int32 => b_X0_laysDown_34 h m (nI i) s.1 s.2) (fun j s => s = (nI j, nI j) ∧ ∀ a : Nat, a < j → H.P.getD a 0 < i) (fun m2 => CH m2 h (H.setP (insA H.P (H.P.findIdx (fun x => decide (i ≤ x))) i)) ∧ qF [h + 3, h + 4] m m2) H.P.length (s := ((0 : Int32), (0 : Int32))) ⟨rfl, fun a q => by omega⟩ (by omega) (by
    rintro j s hj ⟨rfl, hlt⟩
    unfold b_X0_laysDown_34
    rcases Nat.lt_or_ge j H.P.length with q | q
    · rw [isPlace_ok c.2.1 (by omega), if_pos q, at_ok c.2.1 q]
      have hx := hb _ (getD_mem q)
      rcases Nat.lt_or_ge (H.P.getD j 0) i with g | g
      · refine Or.inl ⟨(nI (j + 1), nI (j + 1)), ?_, q, rfl, fun a ha => ?_⟩
        · ((try simp only [li_0, li_1, li_2, li_3, li_4, li_5, li_6, li_7, li_8, li_9, li_10, li_11, li_12, li_13, li_14, li_15, li_16, li_17, li_18, li_19, li_20, li_30, li_31, li_32, li_33, li_40, li_41, li_42, li_43, li_45, li_48, li_56, li_57, li_59, li_60, li_61, li_64, li_91, li_97, li_99, li_100, li_122, li_150, li_160, li_200, li_201, li_255, li_300, li_303, li_304, li_305, li_306, li_312, li_400, li_500, li_999, li_1003, li_3099, li_99999, li_100000, li_neg]); simp (disch := omega) only [ic_le_f, ic_le_t, ic_lt_f, ic_lt_t, ic_eq_f, ic_eq_t, ic_im, ic_mi, ic_mm_t, ic_mm_f, ic_mlt, ic_mle, ic_ilem, ic_iltm, ic_mmle_t, ic_mmle_f, pu_add, pu_mul, pu_in, pu_ck, pu_let, pu_cl, pu_cpok, pu_inr, Option.bind_some, ite_true, ite_false])
        · rcases Nat.lt_or_ge a j with q2 | q2
          · exact hlt a q2
          · rw [show a = j by omega]
            exact g
      · obtain ⟨m2, e1, e2, e3⟩ := cinsert (i := i) c hj hl
        have hk : H.P.findIdx (fun x => decide (i ≤ x)) = j := by
          rw [List.findIdx_eq q]
          refine ⟨?_, fun a ha => ?_⟩
          · rw [List.getD_eq_getElem?_getD, List.getElem?_eq_getElem q, Option.getD_some] at g
            exact decide_eq_true g
          · have := hlt a ha
            rw [List.getD_eq_getElem?_getD, List.getElem?_eq_getElem (by omega), Option.getD_some] at this
            exact decide_eq_false (by omega)
        refine Or.inr ⟨m2, ?_, by rw [hk]; exact e2, e3⟩
        ((try simp only [b_X0_laysDown_72, li_0, li_1, li_2, li_3, li_4, li_5, li_6, li_7, li_8, li_9, li_10, li_11, li_12, li_13, li_14, li_15, li_16, li_17, li_18, li_19, li_20, li_30, li_31, li_32, li_33, li_40, li_41, li_42, li_43, li_45, li_48, li_56, li_57, li_59, li_60, li_61, li_64, li_91, li_97, li_99, li_100, li_122, li_150, li_160, li_200, li_201, li_255, li_300, li_303, li_304, li_305, li_306, li_312, li_400, li_500, li_999, li_1003, li_3099, li_99999, li_100000, li_neg]); simp (disch := omega) only [b_X0_laysDown_72, ic_le_f, ic_le_t, ic_lt_f, ic_lt_t, ic_eq_f, ic_eq_t, ic_im, ic_mi, ic_mm_t, ic_mm_f, ic_mlt, ic_mle, ic_ilem, ic_iltm, ic_mmle_t, ic_mmle_f, pu_add, pu_mul, pu_in, pu_ck, pu_let, pu_cl, pu_cpok, pu_inr, Option.bind_some, ite_true, ite_false])
        rw [e1, Option.bind_some, pu_inr]
    · have hjl : j = H.P.length := by omega
      obtain ⟨m2, e1, e2, e3⟩ := cinsert (i := i) c hj hl
      have hk : H.P.findIdx (fun x => decide (i ≤ x)) = j := by
        rw [hjl]
        refine List.findIdx_eq_length.mpr (fun x hx => ?_)
        obtain ⟨a, ha, e⟩ := List.getElem_of_mem hx
        have := hlt a (by omega)
        rw [List.getD_eq_getElem?_getD, List.getElem?_eq_getElem ha, Option.getD_some, e] at this
        exact decide_eq_false (by omega)
      refine Or.inr ⟨m2, ?_, by rw [hk]; exact e2, e3⟩
      rw [isPlace_ok c.2.1 (by omega), if_neg (show ¬ j < H.P.length by omega)]
      ((try simp only [b_X0_laysDown_72, li_0, li_1, li_2, li_3, li_4, li_5, li_6, li_7, li_8, li_9, li_10, li_11, li_12, li_13, li_14, li_15, li_16, li_17, li_18, li_19, li_20, li_30, li_31, li_32, li_33, li_40, li_41, li_42, li_43, li_45, li_48, li_56, li_57, li_59, li_60, li_61, li_64, li_91, li_97, li_99, li_100, li_122, li_150, li_160, li_200, li_201, li_255, li_300, li_303, li_304, li_305, li_306, li_312, li_400, li_500, li_999, li_1003, li_3099, li_99999, li_100000, li_neg]); simp (disch := omega) only [b_X0_laysDown_72, ic_le_f, ic_le_t, ic_lt_f, ic_lt_t, ic_eq_f, ic_eq_t, ic_im, ic_mi, ic_mm_t, ic_mm_f, ic_mlt, ic_mle, ic_ilem, ic_iltm, ic_mmle_t, ic_mmle_f, pu_add, pu_mul, pu_in, pu_ck, pu_let, pu_cl, pu_cpok, pu_inr, Option.bind_some, ite_true, ite_false])
      rw [e1, Option.bind_some, pu_inr])
  refine ⟨r, ?_, h2⟩
  ((try simp only [li_0, li_1, li_2, li_3, li_4, li_5, li_6, li_7, li_8, li_9, li_10, li_11, li_12, li_13, li_14, li_15, li_16, li_17, li_18, li_19, li_20, li_30, li_31, li_32, li_33, li_40, li_41, li_42, li_43, li_45, li_48, li_56, li_57, li_59, li_60, li_61, li_64, li_91, li_97, li_99, li_100, li_122, li_150, li_160, li_200, li_201, li_255, li_300, li_303, li_304, li_305, li_306, li_312, li_400, li_500, li_999, li_1003, li_3099, li_99999, li_100000, li_neg]); simp (disch := omega) only [ic_le_f, ic_le_t, ic_lt_f, ic_lt_t, ic_eq_f, ic_eq_t, ic_im, ic_mi, ic_mm_t, ic_mm_f, ic_mlt, ic_mle, ic_ilem, ic_iltm, ic_mmle_t, ic_mmle_f, pu_add, pu_mul, pu_in, pu_ck, pu_let, pu_cl, pu_cpok, pu_inr, Option.bind_some, ite_true, ite_false])
  exact h1
/-- a loop that counts up, its end given back -/
theorem lp_for {α : Type} {f : qaM × Int32 → Option ((qaM × Int32) ⊕ qaM)} (g : Nat → α → α) (J : Nat → qaM → α → Prop) (n : Nat) (hN : n < 1900) {m : qaM} {a : α} (h0 : J 0 m a)
    (hs : ∀ (j : Nat) (m : qaM) (a : α), j < n → J j m a → ∃ m2, f (m, nI j) = some (.inl (m2, nI (j + 1))) ∧ J (j + 1) m2 (g j a))
    (he : ∀ (m : qaM) (a : α), J n m a → f (m, nI n) = some (.inr m)) : ∃ m2, qa_lp f qa_F (m, (0 : Int32)) = some m2 ∧ J n m2 (itN g n a) :=
  lp_at (fun j s => s.2 = nI j ∧ J j s.1 (itN g j a)) (fun r => J n r (itN g n a)) n ⟨li_0, h0⟩ hN (by
    rintro j ⟨m1, k⟩ hj ⟨hk, hJ⟩
    have hk2 : k = nI j := hk
    subst hk2
    rcases Nat.lt_or_ge j n with q | q
    · obtain ⟨m2, h1, h2⟩ := hs j m1 _ q hJ
      exact Or.inl ⟨_, h1, q, rfl, h2⟩
    · have : j = n := by omega
      subst this
      exact Or.inr ⟨_, he m1 _ hJ, hJ⟩)
theorem HV.i8 {H : HS} (h : HV H) : ∀ x ∈ H.P, x < 8 := fun x hx => Nat.lt_of_lt_of_le (h.lt x hx) h.n8
theorem qF.t2 {l : List Nat} {m m1 m2 : qaM} {l1 : List Nat} (h1 : qF l m m1) (h2 : qF l1 m1 m2) (hb : ∀ c ∈ l1, c ∈ l) : qF l m m2 := h1.tr h2 (fun _ h => h) hb
theorem ccbS {m : qaM} {h i : Nat} {H : HS} (c : CH m h H) (v : HV H) (hi : i < H.n) : ∃ m2, b_X0_comesBack_2 h m (nI i) = some (.inl (m2, nI (i + 1))) ∧ CH m2 h (cbS i H) ∧ qF [h + 2, h + 3, h + 4] m m2 := by
  have h8 := v.n8
  have a3 := (v.av i).2.2.2.2.2.2.1
  have a7 := (v.av i).2.2.2.2.2.2.2
  unfold b_X0_comesBack_2 cbS
  rw [c.1.1]
  by_cases q7 : H.A i 7 = 1
  · rw [if_pos q7]
    refine ⟨m, ?_, c, qF.rf _ _⟩
    ((try simp only [b_X0_comesBack_51, li_0, li_1, li_2, li_3, li_4, li_5, li_6, li_7, li_8, li_9, li_10, li_11, li_12, li_13, li_14, li_15, li_16, li_17, li_18, li_19, li_20, li_30, li_31, li_32, li_33, li_40, li_41, li_42, li_43, li_45, li_48, li_56, li_57, li_59, li_60, li_61, li_64, li_91, li_97, li_99, li_100, li_122, li_150, li_160, li_200, li_201, li_255, li_300, li_303, li_304, li_305, li_306, li_312, li_400, li_500, li_999, li_1003, li_3099, li_99999, li_100000, li_neg]); simp (disch := omega) only [b_X0_comesBack_51, ic_le_f, ic_le_t, ic_lt_f, ic_lt_t, ic_eq_f, ic_eq_t, ic_im, ic_mi, ic_mm_t, ic_mm_f, ic_mlt, ic_mle, ic_ilem, ic_iltm, ic_mmle_t, ic_mmle_f, pu_add, pu_mul, pu_in, pu_ck, pu_let, pu_cl, pu_cpok, pu_inr, Option.bind_some, ite_true, ite_false])
    rw [cfact6 c (by omega), if_pos q7]
    ((try simp only [b_X0_comesBack_51, li_0, li_1, li_2, li_3, li_4, li_5, li_6, li_7, li_8, li_9, li_10, li_11, li_12, li_13, li_14, li_15, li_16, li_17, li_18, li_19, li_20, li_30, li_31, li_32, li_33, li_40, li_41, li_42, li_43, li_45, li_48, li_56, li_57, li_59, li_60, li_61, li_64, li_91, li_97, li_99, li_100, li_122, li_150, li_160, li_200, li_201, li_255, li_300, li_303, li_304, li_305, li_306, li_312, li_400, li_500, li_999, li_1003, li_3099, li_99999, li_100000, li_neg]); simp (disch := omega) only [b_X0_comesBack_51, ic_le_f, ic_le_t, ic_lt_f, ic_lt_t, ic_eq_f, ic_eq_t, ic_im, ic_mi, ic_mm_t, ic_mm_f, ic_mlt, ic_mle, ic_ilem, ic_iltm, ic_mmle_t, ic_mmle_f, pu_add, pu_mul, pu_in, pu_ck, pu_let, pu_cl, pu_cpok, pu_inr, Option.bind_some, ite_true, ite_false])
  rw [if_neg q7]
  by_cases q6 : H.A i 6 = 0
  · rw [if_pos q6]
    refine ⟨m, ?_, c, qF.rf _ _⟩
    ((try simp only [b_X0_comesBack_51, li_0, li_1, li_2, li_3, li_4, li_5, li_6, li_7, li_8, li_9, li_10, li_11, li_12, li_13, li_14, li_15, li_16, li_17, li_18, li_19, li_20, li_30, li_31, li_32, li_33, li_40, li_41, li_42, li_43, li_45, li_48, li_56, li_57, li_59, li_60, li_61, li_64, li_91, li_97, li_99, li_100, li_122, li_150, li_160, li_200, li_201, li_255, li_300, li_303, li_304, li_305, li_306, li_312, li_400, li_500, li_999, li_1003, li_3099, li_99999, li_100000, li_neg]); simp (disch := omega) only [b_X0_comesBack_51, ic_le_f, ic_le_t, ic_lt_f, ic_lt_t, ic_eq_f, ic_eq_t, ic_im, ic_mi, ic_mm_t, ic_mm_f, ic_mlt, ic_mle, ic_ilem, ic_iltm, ic_mmle_t, ic_mmle_f, pu_add, pu_mul, pu_in, pu_ck, pu_let, pu_cl, pu_cpok, pu_inr, Option.bind_some, ite_true, ite_false])
    rw [cfact6 c (by omega), if_neg q7]
    ((try simp only [b_X0_comesBack_51, li_0, li_1, li_2, li_3, li_4, li_5, li_6, li_7, li_8, li_9, li_10, li_11, li_12, li_13, li_14, li_15, li_16, li_17, li_18, li_19, li_20, li_30, li_31, li_32, li_33, li_40, li_41, li_42, li_43, li_45, li_48, li_56, li_57, li_59, li_60, li_61, li_64, li_91, li_97, li_99, li_100, li_122, li_150, li_160, li_200, li_201, li_255, li_300, li_303, li_304, li_305, li_306, li_312, li_400, li_500, li_999, li_1003, li_3099, li_99999, li_100000, li_neg]); simp (disch := omega) only [b_X0_comesBack_51, ic_le_f, ic_le_t, ic_lt_f, ic_lt_t, ic_eq_f, ic_eq_t, ic_im, ic_mi, ic_mm_t, ic_mm_f, ic_mlt, ic_mle, ic_ilem, ic_iltm, ic_mmle_t, ic_mmle_f, pu_add, pu_mul, pu_in, pu_ck, pu_let, pu_cl, pu_cpok, pu_inr, Option.bind_some, ite_true, ite_false])
  rw [if_neg q6]
  have hp : i ∉ H.P := fun q => q6 (v.fr i q).1
  obtain ⟨m2, e1, e2, e3⟩ := cnotes (k := 6) (v := H.A i 6 - 1) c (show i < 8 by omega) (by omega) (fun _ => by omega)
  have hl := v.lenN hi hp
  by_cases q61 : H.A i 6 = 1
  · rw [if_pos q61]
    rw [q61] at e1 e2
    obtain ⟨m3, g1, g2, g3⟩ := claysDown e2 (show i < 8 by omega) (show H.P.length < 8 by omega) v.i8 v.rs.2.2.2.1
    refine ⟨m3, ?_, g2, (e3.mo (by simp)).t2 g3 (by simp)⟩
    ((try simp only [li_0, li_1, li_2, li_3, li_4, li_5, li_6, li_7, li_8, li_9, li_10, li_11, li_12, li_13, li_14, li_15, li_16, li_17, li_18, li_19, li_20, li_30, li_31, li_32, li_33, li_40, li_41, li_42, li_43, li_45, li_48, li_56, li_57, li_59, li_60, li_61, li_64, li_91, li_97, li_99, li_100, li_122, li_150, li_160, li_200, li_201, li_255, li_300, li_303, li_304, li_305, li_306, li_312, li_400, li_500, li_999, li_1003, li_3099, li_99999, li_100000, li_neg]); simp (disch := omega) only [ic_le_f, ic_le_t, ic_lt_f, ic_lt_t, ic_eq_f, ic_eq_t, ic_im, ic_mi, ic_mm_t, ic_mm_f, ic_mlt, ic_mle, ic_ilem, ic_iltm, ic_mmle_t, ic_mmle_f, pu_add, pu_mul, pu_in, pu_ck, pu_let, pu_cl, pu_cpok, pu_inr, Option.bind_some, ite_true, ite_false])
    rw [cfact6 c (by omega), if_neg q7, q61]
    ((try simp only [li_0, li_1, li_2, li_3, li_4, li_5, li_6, li_7, li_8, li_9, li_10, li_11, li_12, li_13, li_14, li_15, li_16, li_17, li_18, li_19, li_20, li_30, li_31, li_32, li_33, li_40, li_41, li_42, li_43, li_45, li_48, li_56, li_57, li_59, li_60, li_61, li_64, li_91, li_97, li_99, li_100, li_122, li_150, li_160, li_200, li_201, li_255, li_300, li_303, li_304, li_305, li_306, li_312, li_400, li_500, li_999, li_1003, li_3099, li_99999, li_100000, li_neg]); simp (disch := omega) only [ic_le_f, ic_le_t, ic_lt_f, ic_lt_t, ic_eq_f, ic_eq_t, ic_im, ic_mi, ic_mm_t, ic_mm_f, ic_mlt, ic_mle, ic_ilem, ic_iltm, ic_mmle_t, ic_mmle_f, pu_add, pu_mul, pu_in, pu_ck, pu_let, pu_cl, pu_cpok, pu_inr, Option.bind_some, ite_true, ite_false])
    rw [pu_sub (by omega), e1, Option.bind_some, g1]
    ((try simp only [b_X0_comesBack_51, li_0, li_1, li_2, li_3, li_4, li_5, li_6, li_7, li_8, li_9, li_10, li_11, li_12, li_13, li_14, li_15, li_16, li_17, li_18, li_19, li_20, li_30, li_31, li_32, li_33, li_40, li_41, li_42, li_43, li_45, li_48, li_56, li_57, li_59, li_60, li_61, li_64, li_91, li_97, li_99, li_100, li_122, li_150, li_160, li_200, li_201, li_255, li_300, li_303, li_304, li_305, li_306, li_312, li_400, li_500, li_999, li_1003, li_3099, li_99999, li_100000, li_neg]); simp (disch := omega) only [b_X0_comesBack_51, ic_le_f, ic_le_t, ic_lt_f, ic_lt_t, ic_eq_f, ic_eq_t, ic_im, ic_mi, ic_mm_t, ic_mm_f, ic_mlt, ic_mle, ic_ilem, ic_iltm, ic_mmle_t, ic_mmle_f, pu_add, pu_mul, pu_in, pu_ck, pu_let, pu_cl, pu_cpok, pu_inr, Option.bind_some, ite_true, ite_false])
  · rw [if_neg q61]
    refine ⟨m2, ?_, e2, e3.mo (by simp)⟩
    ((try simp only [li_0, li_1, li_2, li_3, li_4, li_5, li_6, li_7, li_8, li_9, li_10, li_11, li_12, li_13, li_14, li_15, li_16, li_17, li_18, li_19, li_20, li_30, li_31, li_32, li_33, li_40, li_41, li_42, li_43, li_45, li_48, li_56, li_57, li_59, li_60, li_61, li_64, li_91, li_97, li_99, li_100, li_122, li_150, li_160, li_200, li_201, li_255, li_300, li_303, li_304, li_305, li_306, li_312, li_400, li_500, li_999, li_1003, li_3099, li_99999, li_100000, li_neg]); simp (disch := omega) only [ic_le_f, ic_le_t, ic_lt_f, ic_lt_t, ic_eq_f, ic_eq_t, ic_im, ic_mi, ic_mm_t, ic_mm_f, ic_mlt, ic_mle, ic_ilem, ic_iltm, ic_mmle_t, ic_mmle_f, pu_add, pu_mul, pu_in, pu_ck, pu_let, pu_cl, pu_cpok, pu_inr, Option.bind_some, ite_true, ite_false])
    rw [cfact6 c (by omega), if_neg q7]
    ((try simp only [li_0, li_1, li_2, li_3, li_4, li_5, li_6, li_7, li_8, li_9, li_10, li_11, li_12, li_13, li_14, li_15, li_16, li_17, li_18, li_19, li_20, li_30, li_31, li_32, li_33, li_40, li_41, li_42, li_43, li_45, li_48, li_56, li_57, li_59, li_60, li_61, li_64, li_91, li_97, li_99, li_100, li_122, li_150, li_160, li_200, li_201, li_255, li_300, li_303, li_304, li_305, li_306, li_312, li_400, li_500, li_999, li_1003, li_3099, li_99999, li_100000, li_neg]); simp (disch := omega) only [ic_le_f, ic_le_t, ic_lt_f, ic_lt_t, ic_eq_f, ic_eq_t, ic_im, ic_mi, ic_mm_t, ic_mm_f, ic_mlt, ic_mle, ic_ilem, ic_iltm, ic_mmle_t, ic_mmle_f, pu_add, pu_mul, pu_in, pu_ck, pu_let, pu_cl, pu_cpok, pu_inr, Option.bind_some, ite_true, ite_false])
    rw [pu_sub (by omega), e1]
    ((try simp only [b_X0_comesBack_51, li_0, li_1, li_2, li_3, li_4, li_5, li_6, li_7, li_8, li_9, li_10, li_11, li_12, li_13, li_14, li_15, li_16, li_17, li_18, li_19, li_20, li_30, li_31, li_32, li_33, li_40, li_41, li_42, li_43, li_45, li_48, li_56, li_57, li_59, li_60, li_61, li_64, li_91, li_97, li_99, li_100, li_122, li_150, li_160, li_200, li_201, li_255, li_300, li_303, li_304, li_305, li_306, li_312, li_400, li_500, li_999, li_1003, li_3099, li_99999, li_100000, li_neg]); simp (disch := omega) only [b_X0_comesBack_51, ic_le_f, ic_le_t, ic_lt_f, ic_lt_t, ic_eq_f, ic_eq_t, ic_im, ic_mi, ic_mm_t, ic_mm_f, ic_mlt, ic_mle, ic_ilem, ic_iltm, ic_mmle_t, ic_mmle_f, pu_add, pu_mul, pu_in, pu_ck, pu_let, pu_cl, pu_cpok, pu_inr, Option.bind_some, ite_true, ite_false])
theorem ccb {m : qaM} {h : Nat} {H : HS} (c : CH m h H) (v : HV H) : ∃ m2, f_X0_comesBack h m = some m2 ∧ CH m2 h (cb H) ∧ qF [h + 2, h + 3, h + 4] m m2 := by
  have h8 := v.n8
  obtain ⟨m2, e1, e2, e3, e4, e5⟩ := lp_for (f := fun s : qaM × Int32 => b_X0_comesBack_2 h s.1 s.2) cbS (fun _ x X => CH x h X ∧ HV X ∧ X.n = H.n ∧ qF [h + 2, h + 3, h + 4] m x) H.n (by omega) ⟨c, v, rfl, qF.rf _ _⟩
    (by
      rintro j x X hj ⟨k1, k2, k3, k4⟩
      obtain ⟨x2, g1, g2, g3⟩ := ccbS k1 k2 (i := j) (by omega)
      have g4 := cbS_V k2 (i := j) (by omega)
      exact ⟨x2, g1, g2, g4.1, g4.2.trans k3, k4.t2 g3 (fun _ z => z)⟩)
    (by
      rintro x X ⟨k1, k2, k3, k4⟩
      show b_X0_comesBack_2 h x (nI H.n) = _
      unfold b_X0_comesBack_2
      rw [k1.1.1, k3]
      ((try simp only [li_0, li_1, li_2, li_3, li_4, li_5, li_6, li_7, li_8, li_9, li_10, li_11, li_12, li_13, li_14, li_15, li_16, li_17, li_18, li_19, li_20, li_30, li_31, li_32, li_33, li_40, li_41, li_42, li_43, li_45, li_48, li_56, li_57, li_59, li_60, li_61, li_64, li_91, li_97, li_99, li_100, li_122, li_150, li_160, li_200, li_201, li_255, li_300, li_303, li_304, li_305, li_306, li_312, li_400, li_500, li_999, li_1003, li_3099, li_99999, li_100000, li_neg]); simp (disch := omega) only [ic_le_f, ic_le_t, ic_lt_f, ic_lt_t, ic_eq_f, ic_eq_t, ic_im, ic_mi, ic_mm_t, ic_mm_f, ic_mlt, ic_mle, ic_ilem, ic_iltm, ic_mmle_t, ic_mmle_f, pu_add, pu_mul, pu_in, pu_ck, pu_let, pu_cl, pu_cpok, pu_inr, Option.bind_some, ite_true, ite_false]))
  exact ⟨m2, e1, e2, e5⟩
theorem ctakeL {m : qaM} {h how : Nat} {H : HS} (c : CH m h H) (mk : Nat → Int32) (g : Nat → Nat → Bool) (hg : ∀ x y, x ∈ H.P → y ∈ H.P → (mk x ≤ mk y ↔ g x y = false))
    (hb : ∀ (v2 v3 : Int32) (j : Nat), j < H.P.length → b_X0_placeToTake_44 h m (nI how) v2 v3 (nI j) = b_X0_placeToTake_96 h m (nI how) v2 v3 (nI j) (mk (H.P.getD j 0))) :
    lp_X0_placeToTake_44 h m (nI how) (nM 1) (nI 0) (nI 0) = some (if H.P.length = 0 then nM 1 else nI (scK g H.P H.P.length)) := by
  have h8 := c.2.1.2.1
  obtain ⟨r, h1, h2⟩ := lp_at (f := fun s : Int32 × Int32 × Int32 => b_X0_placeToTake_44 h m (nI how) s.1 s.2.1 s.2.2)
    (fun j s => s = (if j = 0 then nM 1 else nI (scK g H.P j), if j = 0 then nI 0 else mk (H.P.getD (scK g H.P j) 0), nI j)) (fun r => r = if H.P.length = 0 then nM 1 else nI (scK g H.P H.P.length)) H.P.length (s := (nM 1, nI 0, nI 0)) rfl (by omega) (by
    rintro j s hj rfl
    rcases Nat.lt_or_ge j H.P.length with q | q
    · refine Or.inl ⟨_, ?_, q, rfl⟩
      show b_X0_placeToTake_44 h m (nI how) (if j = 0 then nM 1 else nI (scK g H.P j)) (if j = 0 then nI 0 else mk (H.P.getD (scK g H.P j) 0)) (nI j) = _
      rw [hb _ _ _ q, b_X0_placeToTake_96]
      by_cases j0 : j = 0
      · subst j0
        ((try simp only [b_X0_placeToTake_109, b_X0_placeToTake_115, li_0, li_1, li_2, li_3, li_4, li_5, li_6, li_7, li_8, li_9, li_10, li_11, li_12, li_13, li_14, li_15, li_16, li_17, li_18, li_19, li_20, li_30, li_31, li_32, li_33, li_40, li_41, li_42, li_43, li_45, li_48, li_56, li_57, li_59, li_60, li_61, li_64, li_91, li_97, li_99, li_100, li_122, li_150, li_160, li_200, li_201, li_255, li_300, li_303, li_304, li_305, li_306, li_312, li_400, li_500, li_999, li_1003, li_3099, li_99999, li_100000, li_neg]); simp (disch := omega) only [b_X0_placeToTake_109, b_X0_placeToTake_115, ic_le_f, ic_le_t, ic_lt_f, ic_lt_t, ic_eq_f, ic_eq_t, ic_im, ic_mi, ic_mm_t, ic_mm_f, ic_mlt, ic_mle, ic_ilem, ic_iltm, ic_mmle_t, ic_mmle_f, pu_add, pu_mul, pu_in, pu_ck, pu_let, pu_cl, pu_cpok, pu_inr, Option.bind_some, ite_true, ite_false])
        rfl
      · have hk := scK_lt (g := g) (P := H.P) j (by omega)
        rw [if_neg j0, if_neg j0, if_neg (show ¬ j + 1 = 0 by omega), if_neg (show ¬ j + 1 = 0 by omega)]
        have hgj := hg (H.P.getD j 0) (H.P.getD (scK g H.P j) 0) (getD_mem q) (getD_mem (by omega))
        by_cases hq : g (H.P.getD j 0) (H.P.getD (scK g H.P j) 0) = true
        · have hs : scK g H.P (j + 1) = j := by
            rw [scK, if_neg j0, if_pos hq]
          rw [hs]
          ((try simp only [li_0, li_1, li_2, li_3, li_4, li_5, li_6, li_7, li_8, li_9, li_10, li_11, li_12, li_13, li_14, li_15, li_16, li_17, li_18, li_19, li_20, li_30, li_31, li_32, li_33, li_40, li_41, li_42, li_43, li_45, li_48, li_56, li_57, li_59, li_60, li_61, li_64, li_91, li_97, li_99, li_100, li_122, li_150, li_160, li_200, li_201, li_255, li_300, li_303, li_304, li_305, li_306, li_312, li_400, li_500, li_999, li_1003, li_3099, li_99999, li_100000, li_neg]); simp (disch := omega) only [ic_le_f, ic_le_t, ic_lt_f, ic_lt_t, ic_eq_f, ic_eq_t, ic_im, ic_mi, ic_mm_t, ic_mm_f, ic_mlt, ic_mle, ic_ilem, ic_iltm, ic_mmle_t, ic_mmle_f, pu_add, pu_mul, pu_in, pu_ck, pu_let, pu_cl, pu_cpok, pu_inr, Option.bind_some, ite_true, ite_false])
          rw [if_neg (fun z => by have := hgj.mp z; rw [hq] at this; exact absurd this (by decide))]
          ((try simp only [b_X0_placeToTake_109, b_X0_placeToTake_115, li_0, li_1, li_2, li_3, li_4, li_5, li_6, li_7, li_8, li_9, li_10, li_11, li_12, li_13, li_14, li_15, li_16, li_17, li_18, li_19, li_20, li_30, li_31, li_32, li_33, li_40, li_41, li_42, li_43, li_45, li_48, li_56, li_57, li_59, li_60, li_61, li_64, li_91, li_97, li_99, li_100, li_122, li_150, li_160, li_200, li_201, li_255, li_300, li_303, li_304, li_305, li_306, li_312, li_400, li_500, li_999, li_1003, li_3099, li_99999, li_100000, li_neg]); simp (disch := omega) only [b_X0_placeToTake_109, b_X0_placeToTake_115, ic_le_f, ic_le_t, ic_lt_f, ic_lt_t, ic_eq_f, ic_eq_t, ic_im, ic_mi, ic_mm_t, ic_mm_f, ic_mlt, ic_mle, ic_ilem, ic_iltm, ic_mmle_t, ic_mmle_f, pu_add, pu_mul, pu_in, pu_ck, pu_let, pu_cl, pu_cpok, pu_inr, Option.bind_some, ite_true, ite_false])
        · have hs : scK g H.P (j + 1) = scK g H.P j := by
            rw [scK, if_neg j0, if_neg hq]
          rw [hs]
          ((try simp only [li_0, li_1, li_2, li_3, li_4, li_5, li_6, li_7, li_8, li_9, li_10, li_11, li_12, li_13, li_14, li_15, li_16, li_17, li_18, li_19, li_20, li_30, li_31, li_32, li_33, li_40, li_41, li_42, li_43, li_45, li_48, li_56, li_57, li_59, li_60, li_61, li_64, li_91, li_97, li_99, li_100, li_122, li_150, li_160, li_200, li_201, li_255, li_300, li_303, li_304, li_305, li_306, li_312, li_400, li_500, li_999, li_1003, li_3099, li_99999, li_100000, li_neg]); simp (disch := omega) only [ic_le_f, ic_le_t, ic_lt_f, ic_lt_t, ic_eq_f, ic_eq_t, ic_im, ic_mi, ic_mm_t, ic_mm_f, ic_mlt, ic_mle, ic_ilem, ic_iltm, ic_mmle_t, ic_mmle_f, pu_add, pu_mul, pu_in, pu_ck, pu_let, pu_cl, pu_cpok, pu_inr, Option.bind_some, ite_true, ite_false])
          rw [if_pos (hgj.mpr (by simpa using hq))]
          ((try simp only [b_X0_placeToTake_115, li_0, li_1, li_2, li_3, li_4, li_5, li_6, li_7, li_8, li_9, li_10, li_11, li_12, li_13, li_14, li_15, li_16, li_17, li_18, li_19, li_20, li_30, li_31, li_32, li_33, li_40, li_41, li_42, li_43, li_45, li_48, li_56, li_57, li_59, li_60, li_61, li_64, li_91, li_97, li_99, li_100, li_122, li_150, li_160, li_200, li_201, li_255, li_300, li_303, li_304, li_305, li_306, li_312, li_400, li_500, li_999, li_1003, li_3099, li_99999, li_100000, li_neg]); simp (disch := omega) only [b_X0_placeToTake_115, ic_le_f, ic_le_t, ic_lt_f, ic_lt_t, ic_eq_f, ic_eq_t, ic_im, ic_mi, ic_mm_t, ic_mm_f, ic_mlt, ic_mle, ic_ilem, ic_iltm, ic_mmle_t, ic_mmle_f, pu_add, pu_mul, pu_in, pu_ck, pu_let, pu_cl, pu_cpok, pu_inr, Option.bind_some, ite_true, ite_false])
    · have hjl : j = H.P.length := by omega
      refine Or.inr ⟨_, ?_, rfl⟩
      show b_X0_placeToTake_44 h m (nI how) (if j = 0 then nM 1 else nI (scK g H.P j)) (if j = 0 then nI 0 else mk (H.P.getD (scK g H.P j) 0)) (nI j) = _
      unfold b_X0_placeToTake_44
      rw [c.2.1.1, hjl]
      ((try simp only [li_0, li_1, li_2, li_3, li_4, li_5, li_6, li_7, li_8, li_9, li_10, li_11, li_12, li_13, li_14, li_15, li_16, li_17, li_18, li_19, li_20, li_30, li_31, li_32, li_33, li_40, li_41, li_42, li_43, li_45, li_48, li_56, li_57, li_59, li_60, li_61, li_64, li_91, li_97, li_99, li_100, li_122, li_150, li_160, li_200, li_201, li_255, li_300, li_303, li_304, li_305, li_306, li_312, li_400, li_500, li_999, li_1003, li_3099, li_99999, li_100000, li_neg]); simp (disch := omega) only [ic_le_f, ic_le_t, ic_lt_f, ic_lt_t, ic_eq_f, ic_eq_t, ic_im, ic_mi, ic_mm_t, ic_mm_f, ic_mlt, ic_mle, ic_ilem, ic_iltm, ic_mmle_t, ic_mmle_f, pu_add, pu_mul, pu_in, pu_ck, pu_let, pu_cl, pu_cpok, pu_inr, Option.bind_some, ite_true, ite_false]))
  rw [lp_X0_placeToTake_44, h1, h2]
theorem ctakes {m : qaM} {h how : Nat} {H : HS} (c : CH m h H) (v : HV H) (hh : how ≤ 3) : f_X0_placeToTake h m (nI how) = some (if H.P.length = 0 then nM 1 else nI (tkK how H)) := by
  have h8 := c.2.1.2.1
  unfold f_X0_placeToTake tkK
  by_cases q0 : how = 0
  · rw [q0]
    ((try simp only [b_X0_placeToTake_9, b_X0_placeToTake_27, li_0, li_1, li_2, li_3, li_4, li_5, li_6, li_7, li_8, li_9, li_10, li_11, li_12, li_13, li_14, li_15, li_16, li_17, li_18, li_19, li_20, li_30, li_31, li_32, li_33, li_40, li_41, li_42, li_43, li_45, li_48, li_56, li_57, li_59, li_60, li_61, li_64, li_91, li_97, li_99, li_100, li_122, li_150, li_160, li_200, li_201, li_255, li_300, li_303, li_304, li_305, li_306, li_312, li_400, li_500, li_999, li_1003, li_3099, li_99999, li_100000, li_neg]); simp (disch := omega) only [b_X0_placeToTake_9, b_X0_placeToTake_27, ic_le_f, ic_le_t, ic_lt_f, ic_lt_t, ic_eq_f, ic_eq_t, ic_im, ic_mi, ic_mm_t, ic_mm_f, ic_mlt, ic_mle, ic_ilem, ic_iltm, ic_mmle_t, ic_mmle_f, pu_add, pu_mul, pu_in, pu_ck, pu_let, pu_cl, pu_cpok, pu_inr, Option.bind_some, ite_true, ite_false])
    rw [c.2.1.1]
    by_cases l0 : H.P.length = 0
    · rw [l0]
      ((try simp only [li_0, li_1, li_2, li_3, li_4, li_5, li_6, li_7, li_8, li_9, li_10, li_11, li_12, li_13, li_14, li_15, li_16, li_17, li_18, li_19, li_20, li_30, li_31, li_32, li_33, li_40, li_41, li_42, li_43, li_45, li_48, li_56, li_57, li_59, li_60, li_61, li_64, li_91, li_97, li_99, li_100, li_122, li_150, li_160, li_200, li_201, li_255, li_300, li_303, li_304, li_305, li_306, li_312, li_400, li_500, li_999, li_1003, li_3099, li_99999, li_100000, li_neg]); simp (disch := omega) only [ic_le_f, ic_le_t, ic_lt_f, ic_lt_t, ic_eq_f, ic_eq_t, ic_im, ic_mi, ic_mm_t, ic_mm_f, ic_mlt, ic_mle, ic_ilem, ic_iltm, ic_mmle_t, ic_mmle_f, pu_add, pu_mul, pu_in, pu_ck, pu_let, pu_cl, pu_cpok, pu_inr, Option.bind_some, ite_true, ite_false])
      rfl
    · rw [if_neg l0]
      ((try simp only [li_0, li_1, li_2, li_3, li_4, li_5, li_6, li_7, li_8, li_9, li_10, li_11, li_12, li_13, li_14, li_15, li_16, li_17, li_18, li_19, li_20, li_30, li_31, li_32, li_33, li_40, li_41, li_42, li_43, li_45, li_48, li_56, li_57, li_59, li_60, li_61, li_64, li_91, li_97, li_99, li_100, li_122, li_150, li_160, li_200, li_201, li_255, li_300, li_303, li_304, li_305, li_306, li_312, li_400, li_500, li_999, li_1003, li_3099, li_99999, li_100000, li_neg]); simp (disch := omega) only [ic_le_f, ic_le_t, ic_lt_f, ic_lt_t, ic_eq_f, ic_eq_t, ic_im, ic_mi, ic_mm_t, ic_mm_f, ic_mlt, ic_mle, ic_ilem, ic_iltm, ic_mmle_t, ic_mmle_f, pu_add, pu_mul, pu_in, pu_ck, pu_let, pu_cl, pu_cpok, pu_inr, Option.bind_some, ite_true, ite_false])
  by_cases q1 : how = 1
  · rw [q1]
    ((try simp only [b_X0_placeToTake_9, b_X0_placeToTake_27, li_0, li_1, li_2, li_3, li_4, li_5, li_6, li_7, li_8, li_9, li_10, li_11, li_12, li_13, li_14, li_15, li_16, li_17, li_18, li_19, li_20, li_30, li_31, li_32, li_33, li_40, li_41, li_42, li_43, li_45, li_48, li_56, li_57, li_59, li_60, li_61, li_64, li_91, li_97, li_99, li_100, li_122, li_150, li_160, li_200, li_201, li_255, li_300, li_303, li_304, li_305, li_306, li_312, li_400, li_500, li_999, li_1003, li_3099, li_99999, li_100000, li_neg]); simp (disch := omega) only [b_X0_placeToTake_9, b_X0_placeToTake_27, ic_le_f, ic_le_t, ic_lt_f, ic_lt_t, ic_eq_f, ic_eq_t, ic_im, ic_mi, ic_mm_t, ic_mm_f, ic_mlt, ic_mle, ic_ilem, ic_iltm, ic_mmle_t, ic_mmle_f, pu_add, pu_mul, pu_in, pu_ck, pu_let, pu_cl, pu_cpok, pu_inr, Option.bind_some, ite_true, ite_false])
    rw [c.2.1.1]
    by_cases l0 : H.P.length = 0
    · rw [l0]
      rfl
    · rw [if_neg l0, pu_sub (by omega)]
      rfl
  rw [if_neg q0, if_neg q1]
  ((try simp only [li_0, li_1, li_2, li_3, li_4, li_5, li_6, li_7, li_8, li_9, li_10, li_11, li_12, li_13, li_14, li_15, li_16, li_17, li_18, li_19, li_20, li_30, li_31, li_32, li_33, li_40, li_41, li_42, li_43, li_45, li_48, li_56, li_57, li_59, li_60, li_61, li_64, li_91, li_97, li_99, li_100, li_122, li_150, li_160, li_200, li_201, li_255, li_300, li_303, li_304, li_305, li_306, li_312, li_400, li_500, li_999, li_1003, li_3099, li_99999, li_100000, li_neg]); simp (disch := omega) only [ic_le_f, ic_le_t, ic_lt_f, ic_lt_t, ic_eq_f, ic_eq_t, ic_im, ic_mi, ic_mm_t, ic_mm_f, ic_mlt, ic_mle, ic_ilem, ic_iltm, ic_mmle_t, ic_mmle_f, pu_add, pu_mul, pu_in, pu_ck, pu_let, pu_cl, pu_cpok, pu_inr, Option.bind_some, ite_true, ite_false])
  by_cases q2 : how = 2
  · subst q2
    rw [if_pos rfl]
    refine ctakeL c (fun x => nM (H.A x 2)) _ (fun x y _ _ => ?_) (fun v2 v3 j hj => ?_)
    · have hx := (v.av x).2.2.1
      have hy := (v.av y).2.2.1
      rw [mm_le (by omega) (by omega)]
      simp
    · unfold b_X0_placeToTake_44
      have hx := v.i8 _ (getD_mem hj)
      rw [c.2.1.1]
      ((try simp only [li_0, li_1, li_2, li_3, li_4, li_5, li_6, li_7, li_8, li_9, li_10, li_11, li_12, li_13, li_14, li_15, li_16, li_17, li_18, li_19, li_20, li_30, li_31, li_32, li_33, li_40, li_41, li_42, li_43, li_45, li_48, li_56, li_57, li_59, li_60, li_61, li_64, li_91, li_97, li_99, li_100, li_122, li_150, li_160, li_200, li_201, li_255, li_300, li_303, li_304, li_305, li_306, li_312, li_400, li_500, li_999, li_1003, li_3099, li_99999, li_100000, li_neg]); simp (disch := omega) only [ic_le_f, ic_le_t, ic_lt_f, ic_lt_t, ic_eq_f, ic_eq_t, ic_im, ic_mi, ic_mm_t, ic_mm_f, ic_mlt, ic_mle, ic_ilem, ic_iltm, ic_mmle_t, ic_mmle_f, pu_add, pu_mul, pu_in, pu_ck, pu_let, pu_cl, pu_cpok, pu_inr, Option.bind_some, ite_true, ite_false])
      rw [at_ok c.2.1 hj]
      ((try simp only [li_0, li_1, li_2, li_3, li_4, li_5, li_6, li_7, li_8, li_9, li_10, li_11, li_12, li_13, li_14, li_15, li_16, li_17, li_18, li_19, li_20, li_30, li_31, li_32, li_33, li_40, li_41, li_42, li_43, li_45, li_48, li_56, li_57, li_59, li_60, li_61, li_64, li_91, li_97, li_99, li_100, li_122, li_150, li_160, li_200, li_201, li_255, li_300, li_303, li_304, li_305, li_306, li_312, li_400, li_500, li_999, li_1003, li_3099, li_99999, li_100000, li_neg]); simp (disch := omega) only [ic_le_f, ic_le_t, ic_lt_f, ic_lt_t, ic_eq_f, ic_eq_t, ic_im, ic_mi, ic_mm_t, ic_mm_f, ic_mlt, ic_mle, ic_ilem, ic_iltm, ic_mmle_t, ic_mmle_f, pu_add, pu_mul, pu_in, pu_ck, pu_let, pu_cl, pu_cpok, pu_inr, Option.bind_some, ite_true, ite_false])
      rw [cfact c hx (by omega) (by omega)]
      ((try simp only [li_0, li_1, li_2, li_3, li_4, li_5, li_6, li_7, li_8, li_9, li_10, li_11, li_12, li_13, li_14, li_15, li_16, li_17, li_18, li_19, li_20, li_30, li_31, li_32, li_33, li_40, li_41, li_42, li_43, li_45, li_48, li_56, li_57, li_59, li_60, li_61, li_64, li_91, li_97, li_99, li_100, li_122, li_150, li_160, li_200, li_201, li_255, li_300, li_303, li_304, li_305, li_306, li_312, li_400, li_500, li_999, li_1003, li_3099, li_99999, li_100000, li_neg]); simp (disch := omega) only [ic_le_f, ic_le_t, ic_lt_f, ic_lt_t, ic_eq_f, ic_eq_t, ic_im, ic_mi, ic_mm_t, ic_mm_f, ic_mlt, ic_mle, ic_ilem, ic_iltm, ic_mmle_t, ic_mmle_f, pu_add, pu_mul, pu_in, pu_ck, pu_let, pu_cl, pu_cpok, pu_inr, Option.bind_some, ite_true, ite_false])
      rw [li_neg]
  · rw [if_neg q2]
    refine ctakeL c (fun x => nI (H.A x 4)) _ (fun x y _ _ => ?_) (fun v2 v3 j hj => ?_)
    · have hx := (v.av x).2.2.2.2.1
      have hy := (v.av y).2.2.2.2.1
      rw [ii_le (by omega) (by omega)]
      simp
    · unfold b_X0_placeToTake_44
      have hx := v.i8 _ (getD_mem hj)
      rw [c.2.1.1]
      ((try simp only [li_0, li_1, li_2, li_3, li_4, li_5, li_6, li_7, li_8, li_9, li_10, li_11, li_12, li_13, li_14, li_15, li_16, li_17, li_18, li_19, li_20, li_30, li_31, li_32, li_33, li_40, li_41, li_42, li_43, li_45, li_48, li_56, li_57, li_59, li_60, li_61, li_64, li_91, li_97, li_99, li_100, li_122, li_150, li_160, li_200, li_201, li_255, li_300, li_303, li_304, li_305, li_306, li_312, li_400, li_500, li_999, li_1003, li_3099, li_99999, li_100000, li_neg]); simp (disch := omega) only [ic_le_f, ic_le_t, ic_lt_f, ic_lt_t, ic_eq_f, ic_eq_t, ic_im, ic_mi, ic_mm_t, ic_mm_f, ic_mlt, ic_mle, ic_ilem, ic_iltm, ic_mmle_t, ic_mmle_f, pu_add, pu_mul, pu_in, pu_ck, pu_let, pu_cl, pu_cpok, pu_inr, Option.bind_some, ite_true, ite_false])
      rw [at_ok c.2.1 hj]
      ((try simp only [li_0, li_1, li_2, li_3, li_4, li_5, li_6, li_7, li_8, li_9, li_10, li_11, li_12, li_13, li_14, li_15, li_16, li_17, li_18, li_19, li_20, li_30, li_31, li_32, li_33, li_40, li_41, li_42, li_43, li_45, li_48, li_56, li_57, li_59, li_60, li_61, li_64, li_91, li_97, li_99, li_100, li_122, li_150, li_160, li_200, li_201, li_255, li_300, li_303, li_304, li_305, li_306, li_312, li_400, li_500, li_999, li_1003, li_3099, li_99999, li_100000, li_neg]); simp (disch := omega) only [ic_le_f, ic_le_t, ic_lt_f, ic_lt_t, ic_eq_f, ic_eq_t, ic_im, ic_mi, ic_mm_t, ic_mm_f, ic_mlt, ic_mle, ic_ilem, ic_iltm, ic_mmle_t, ic_mmle_f, pu_add, pu_mul, pu_in, pu_ck, pu_let, pu_cl, pu_cpok, pu_inr, Option.bind_some, ite_true, ite_false])
      rw [cfact c hx (by omega) (by omega)]
      ((try simp only [li_0, li_1, li_2, li_3, li_4, li_5, li_6, li_7, li_8, li_9, li_10, li_11, li_12, li_13, li_14, li_15, li_16, li_17, li_18, li_19, li_20, li_30, li_31, li_32, li_33, li_40, li_41, li_42, li_43, li_45, li_48, li_56, li_57, li_59, li_60, li_61, li_64, li_91, li_97, li_99, li_100, li_122, li_150, li_160, li_200, li_201, li_255, li_300, li_303, li_304, li_305, li_306, li_312, li_400, li_500, li_999, li_1003, li_3099, li_99999, li_100000, li_neg]); simp (disch := omega) only [ic_le_f, ic_le_t, ic_lt_f, ic_lt_t, ic_eq_f, ic_eq_t, ic_im, ic_mi, ic_mm_t, ic_mm_f, ic_mlt, ic_mle, ic_ilem, ic_iltm, ic_mmle_t, ic_mmle_f, pu_add, pu_mul, pu_in, pu_ck, pu_let, pu_cl, pu_cpok, pu_inr, Option.bind_some, ite_true, ite_false])
