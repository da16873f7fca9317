/-! PURE: the class's Either, Both, Sum, Term -/
theorem kEi {m : qaM} {B : Nat → Nat} {L N p a : Nat} {σ o : List Nat} {x : qaM} {rec : Nat → qaM → Int32 → Option (Int32 × qaM)} {ok : Nat → Nat → Prop} (t : TPb m B L) (hm : m 1 0 = nI N) (hN : N < 6) (R : RDk m B L N rec ok) (hok : ok 1 (opN σ)) (hop : opN σ ≤ 5) (hpre : preT 0 (tknd B L p) a σ) (c : C6 N m x) (kx : tkC x B L p) (u : ouC x N o) (hp : p ≤ L) (hpo : o.length ≤ p) : RSc m B L N 0 p a σ o (f_X4_readsEither rec x (nI (opN σ))) := by
  have hpre2 : preT 1 (tknd B L p) a σ := by
    obtain ⟨q1, q2, q3, q4, q5, q6, q7⟩ := hpre
    refine ⟨fun z => by omega, fun z => ?_, fun z => ?_, fun z => by omega, fun z => ?_, fun z => ?_, fun z => ?_⟩
    all_goals first | omega | exact q6 (by omega) | exact q7 (by omega) | exact trk.mo (by omega) (q1 rfl) | exact trk.mo (by omega) (q2 rfl) | exact trk.mo (by omega) (q4 rfl)
  have htr : trk (levT 0) σ := by
    obtain ⟨q1, q2, q3, q4, q5, q6, q7⟩ := hpre
    first | exact q1 rfl | exact q2 rfl | exact q4 rfl | exact q5 rfl
  obtain ⟨b1, x1, r1, r2, r3⟩ := R 1 p a σ o x (by omega) hok hpre2 hop c kx u hp hpo
  unfold f_X4_readsEither
  simp only [li_0, li_1, li_2, li_3, li_4, li_5, li_6, li_7, li_8, li_9, li_10, li_11, li_12, li_13, li_14, li_15, li_16, li_17, li_18, li_19, li_20, li_30, li_31, li_32, li_33, li_40, li_41, li_42, li_43, li_45, li_48, li_56, li_57, li_59, li_60, li_61, li_64, li_91, li_97, li_99, li_100, li_122, li_150, li_160, li_200, li_201, li_255, li_300, li_303, li_304, li_305, li_306, li_312, li_400, li_500, li_999, li_1003, li_3099, li_99999, li_100000, li_1000000, li_65, li_23, li_neg]
  rw [r1, Option.bind_some, lp_X4_readsEither_10]
  refine kloop t hm hN (fun k => k = 303) R (by omega) hok hop htr hpo ?_ ?_ ?_ ?_ ?_ x1 b1 r2 r3
  · intro k hk
    have hk2 : k = 303 := hk
    subst hk2
    exact ⟨by decide, by decide, by decide, by decide, by decide⟩
  · intro k τ q h hk
    have hk2 : ¬ (k = 303) := hk
    obtain ⟨h1, h2, h3, h4, h5⟩ := h
    refine ⟨fun z => ?_, fun z => ?_, fun z => ?_, fun z => ?_, fun z => ?_⟩
    all_goals first | omega | exact h1 (by omega) | exact h2 (by omega) | exact h3 (by omega) | exact h4 (by omega)
  · intro x j hj
    show b_X4_readsEither_10 rec x (nI (opN σ)) (nI 0) (nI j) = _
    unfold b_X4_readsEither_10
    simp only [li_0, li_1, li_2, li_3, li_4, li_5, li_6, li_7, li_8, li_9, li_10, li_11, li_12, li_13, li_14, li_15, li_16, li_17, li_18, li_19, li_20, li_30, li_31, li_32, li_33, li_40, li_41, li_42, li_43, li_45, li_48, li_56, li_57, li_59, li_60, li_61, li_64, li_91, li_97, li_99, li_100, li_122, li_150, li_160, li_200, li_201, li_255, li_300, li_303, li_304, li_305, li_306, li_312, li_400, li_500, li_999, li_1003, li_3099, li_99999, li_100000, li_1000000, li_65, li_23, li_neg]
    rw [if_pos trivial, qa_bl0, pu_ck]
    split <;> rfl
  · intro x k j hj hk4 hk hns
    have hns2 : ¬ (k = 303) := hns
    show b_X4_readsEither_10 rec x (nI (opN σ)) (nI 1) (nI j) = _
    unfold b_X4_readsEither_10
    simp only [li_0, li_1, li_2, li_3, li_4, li_5, li_6, li_7, li_8, li_9, li_10, li_11, li_12, li_13, li_14, li_15, li_16, li_17, li_18, li_19, li_20, li_30, li_31, li_32, li_33, li_40, li_41, li_42, li_43, li_45, li_48, li_56, li_57, li_59, li_60, li_61, li_64, li_91, li_97, li_99, li_100, li_122, li_150, li_160, li_200, li_201, li_255, li_300, li_303, li_304, li_305, li_306, li_312, li_400, li_500, li_999, li_1003, li_3099, li_99999, li_100000, li_1000000, li_65, li_23, li_neg]
    rw [ic_le_f hj (by omega), if_neg n10, hk, ic_eq_f hns2 (by omega) (by omega), qa_bl1, pu_ck]
    rfl
  · intro x k j hj hk hx y z z2 b h1 h2 h3
    have hk2 : k = 303 := hk
    subst hk2
    show b_X4_readsEither_10 rec x (nI (opN σ)) (nI 1) (nI j) = _
    unfold b_X4_readsEither_10
    simp only [li_0, li_1, li_2, li_3, li_4, li_5, li_6, li_7, li_8, li_9, li_10, li_11, li_12, li_13, li_14, li_15, li_16, li_17, li_18, li_19, li_20, li_30, li_31, li_32, li_33, li_40, li_41, li_42, li_43, li_45, li_48, li_56, li_57, li_59, li_60, li_61, li_64, li_91, li_97, li_99, li_100, li_122, li_150, li_160, li_200, li_201, li_255, li_300, li_303, li_304, li_305, li_306, li_312, li_400, li_500, li_999, li_1003, li_3099, li_99999, li_100000, li_1000000, li_65, li_23, li_neg]
    rw [ic_le_f hj (by omega), if_neg n10, hx, if_pos rfl, h1, Option.bind_some, h2, Option.bind_some]
    show Option.bind (f_X5_adds z (nM 303)) _ = _
    rw [h3, Option.bind_some, pu_add, pu_let]
theorem kBo {m : qaM} {B : Nat → Nat} {L N p a : Nat} {σ o : List Nat} {x : qaM} {rec : Nat → qaM → Int32 → Option (Int32 × qaM)} {ok : Nat → Nat → Prop} (t : TPb m B L) (hm : m 1 0 = nI N) (hN : N < 6) (R : RDk m B L N rec ok) (hok : ok 2 (opN σ)) (hop : opN σ ≤ 5) (hpre : preT 1 (tknd B L p) a σ) (c : C6 N m x) (kx : tkC x B L p) (u : ouC x N o) (hp : p ≤ L) (hpo : o.length ≤ p) : RSc m B L N 1 p a σ o (f_X4_readsBoth rec x (nI (opN σ))) := by
  have hpre2 : preT 2 (tknd B L p) a σ := by
    obtain ⟨q1, q2, q3, q4, q5, q6, q7⟩ := hpre
    refine ⟨fun z => by omega, fun z => ?_, fun z => ?_, fun z => by omega, fun z => ?_, fun z => ?_, fun z => ?_⟩
    all_goals first | omega | exact q6 (by omega) | exact q7 (by omega) | exact trk.mo (by omega) (q1 rfl) | exact trk.mo (by omega) (q2 rfl) | exact trk.mo (by omega) (q4 rfl)
  have htr : trk (levT 1) σ := by
    obtain ⟨q1, q2, q3, q4, q5, q6, q7⟩ := hpre
    first | exact q1 rfl | exact q2 rfl | exact q4 rfl | exact q5 rfl
  obtain ⟨b1, x1, r1, r2, r3⟩ := R 2 p a σ o x (by omega) hok hpre2 hop c kx u hp hpo
  unfold f_X4_readsBoth
  simp only [li_0, li_1, li_2, li_3, li_4, li_5, li_6, li_7, li_8, li_9, li_10, li_11, li_12, li_13, li_14, li_15, li_16, li_17, li_18, li_19, li_20, li_30, li_31, li_32, li_33, li_40, li_41, li_42, li_43, li_45, li_48, li_56, li_57, li_59, li_60, li_61, li_64, li_91, li_97, li_99, li_100, li_122, li_150, li_160, li_200, li_201, li_255, li_300, li_303, li_304, li_305, li_306, li_312, li_400, li_500, li_999, li_1003, li_3099, li_99999, li_100000, li_1000000, li_65, li_23, li_neg]
  rw [r1, Option.bind_some, lp_X4_readsBoth_10]
  refine kloop t hm hN (fun k => k = 304) R (by omega) hok hop htr hpo ?_ ?_ ?_ ?_ ?_ x1 b1 r2 r3
  · intro k hk
    have hk2 : k = 304 := hk
    subst hk2
    exact ⟨by decide, by decide, by decide, by decide, by decide⟩
  · intro k τ q h hk
    have hk2 : ¬ (k = 304) := hk
    obtain ⟨h1, h2, h3, h4, h5⟩ := h
    refine ⟨fun z => ?_, fun z => ?_, fun z => ?_, fun z => ?_, fun z => ?_⟩
    all_goals first | omega | exact h1 (by omega) | exact h2 (by omega) | exact h3 (by omega) | exact h4 (by omega)
  · intro x j hj
    show b_X4_readsBoth_10 rec x (nI (opN σ)) (nI 0) (nI j) = _
    unfold b_X4_readsBoth_10
    simp only [li_0, li_1, li_2, li_3, li_4, li_5, li_6, li_7, li_8, li_9, li_10, li_11, li_12, li_13, li_14, li_15, li_16, li_17, li_18, li_19, li_20, li_30, li_31, li_32, li_33, li_40, li_41, li_42, li_43, li_45, li_48, li_56, li_57, li_59, li_60, li_61, li_64, li_91, li_97, li_99, li_100, li_122, li_150, li_160, li_200, li_201, li_255, li_300, li_303, li_304, li_305, li_306, li_312, li_400, li_500, li_999, li_1003, li_3099, li_99999, li_100000, li_1000000, li_65, li_23, li_neg]
    rw [if_pos trivial, qa_bl0, pu_ck]
    split <;> rfl
  · intro x k j hj hk4 hk hns
    have hns2 : ¬ (k = 304) := hns
    show b_X4_readsBoth_10 rec x (nI (opN σ)) (nI 1) (nI j) = _
    unfold b_X4_readsBoth_10
    simp only [li_0, li_1, li_2, li_3, li_4, li_5, li_6, li_7, li_8, li_9, li_10, li_11, li_12, li_13, li_14, li_15, li_16, li_17, li_18, li_19, li_20, li_30, li_31, li_32, li_33, li_40, li_41, li_42, li_43, li_45, li_48, li_56, li_57, li_59, li_60, li_61, li_64, li_91, li_97, li_99, li_100, li_122, li_150, li_160, li_200, li_201, li_255, li_300, li_303, li_304, li_305, li_306, li_312, li_400, li_500, li_999, li_1003, li_3099, li_99999, li_100000, li_1000000, li_65, li_23, li_neg]
    rw [ic_le_f hj (by omega), if_neg n10, hk, ic_eq_f hns2 (by omega) (by omega), qa_bl1, pu_ck]
    rfl
  · intro x k j hj hk hx y z z2 b h1 h2 h3
    have hk2 : k = 304 := hk
    subst hk2
    show b_X4_readsBoth_10 rec x (nI (opN σ)) (nI 1) (nI j) = _
    unfold b_X4_readsBoth_10
    simp only [li_0, li_1, li_2, li_3, li_4, li_5, li_6, li_7, li_8, li_9, li_10, li_11, li_12, li_13, li_14, li_15, li_16, li_17, li_18, li_19, li_20, li_30, li_31, li_32, li_33, li_40, li_41, li_42, li_43, li_45, li_48, li_56, li_57, li_59, li_60, li_61, li_64, li_91, li_97, li_99, li_100, li_122, li_150, li_160, li_200, li_201, li_255, li_300, li_303, li_304, li_305, li_306, li_312, li_400, li_500, li_999, li_1003, li_3099, li_99999, li_100000, li_1000000, li_65, li_23, li_neg]
    rw [ic_le_f hj (by omega), if_neg n10, hx, if_pos rfl, h1, Option.bind_some, h2, Option.bind_some]
    show Option.bind (f_X5_adds z (nM 304)) _ = _
    rw [h3, Option.bind_some, pu_add, pu_let]
theorem kSu {m : qaM} {B : Nat → Nat} {L N p a : Nat} {σ o : List Nat} {x : qaM} {rec : Nat → qaM → Int32 → Option (Int32 × qaM)} {ok : Nat → Nat → Prop} (t : TPb m B L) (hm : m 1 0 = nI N) (hN : N < 6) (R : RDk m B L N rec ok) (hok : ok 4 (opN σ)) (hop : opN σ ≤ 5) (hpre : preT 3 (tknd B L p) a σ) (c : C6 N m x) (kx : tkC x B L p) (u : ouC x N o) (hp : p ≤ L) (hpo : o.length ≤ p) : RSc m B L N 3 p a σ o (f_X4_readsSum rec x (nI (opN σ))) := by
  have hpre2 : preT 4 (tknd B L p) a σ := by
    obtain ⟨q1, q2, q3, q4, q5, q6, q7⟩ := hpre
    refine ⟨fun z => by omega, fun z => ?_, fun z => ?_, fun z => by omega, fun z => ?_, fun z => ?_, fun z => ?_⟩
    all_goals first | omega | exact q6 (by omega) | exact q7 (by omega) | exact trk.mo (by omega) (q1 rfl) | exact trk.mo (by omega) (q2 rfl) | exact trk.mo (by omega) (q4 rfl)
  have htr : trk (levT 3) σ := by
    obtain ⟨q1, q2, q3, q4, q5, q6, q7⟩ := hpre
    first | exact q1 rfl | exact q2 rfl | exact q4 rfl | exact q5 rfl
  obtain ⟨b1, x1, r1, r2, r3⟩ := R 4 p a σ o x (by omega) hok hpre2 hop c kx u hp hpo
  unfold f_X4_readsSum
  simp only [li_0, li_1, li_2, li_3, li_4, li_5, li_6, li_7, li_8, li_9, li_10, li_11, li_12, li_13, li_14, li_15, li_16, li_17, li_18, li_19, li_20, li_30, li_31, li_32, li_33, li_40, li_41, li_42, li_43, li_45, li_48, li_56, li_57, li_59, li_60, li_61, li_64, li_91, li_97, li_99, li_100, li_122, li_150, li_160, li_200, li_201, li_255, li_300, li_303, li_304, li_305, li_306, li_312, li_400, li_500, li_999, li_1003, li_3099, li_99999, li_100000, li_1000000, li_65, li_23, li_neg]
  rw [r1, Option.bind_some, lp_X4_readsSum_10]
  refine kloop t hm hN (fun k => k = 43 ∨ k = 45) R (by omega) hok hop htr hpo ?_ ?_ ?_ ?_ ?_ x1 b1 r2 r3
  · intro k hk
    rcases hk with rfl | rfl <;> exact ⟨by decide, by decide, by decide, by decide, by decide⟩
  · intro k τ q h hk
    have hk2 : ¬ (k = 43 ∨ k = 45) := hk
    obtain ⟨h1, h2, h3, h4, h5⟩ := h
    refine ⟨fun z => ?_, fun z => ?_, fun z => ?_, fun z => ?_, fun z => ?_⟩
    all_goals first | omega | exact h1 (by omega) | exact h2 (by omega) | exact h3 (by omega) | exact h4 (by omega)
  · intro x j hj
    show b_X4_readsSum_10 rec x (nI (opN σ)) (nI 0) (nI j) = _
    unfold b_X4_readsSum_10
    simp only [li_0, li_1, li_2, li_3, li_4, li_5, li_6, li_7, li_8, li_9, li_10, li_11, li_12, li_13, li_14, li_15, li_16, li_17, li_18, li_19, li_20, li_30, li_31, li_32, li_33, li_40, li_41, li_42, li_43, li_45, li_48, li_56, li_57, li_59, li_60, li_61, li_64, li_91, li_97, li_99, li_100, li_122, li_150, li_160, li_200, li_201, li_255, li_300, li_303, li_304, li_305, li_306, li_312, li_400, li_500, li_999, li_1003, li_3099, li_99999, li_100000, li_1000000, li_65, li_23, li_neg]
    rw [if_pos trivial, qa_bl0, pu_ck]
    split <;> rfl
  · intro x k j hj hk4 hk hns
    have hns2 : ¬ (k = 43 ∨ k = 45) := hns
    show b_X4_readsSum_10 rec x (nI (opN σ)) (nI 1) (nI j) = _
    unfold b_X4_readsSum_10
    simp only [li_0, li_1, li_2, li_3, li_4, li_5, li_6, li_7, li_8, li_9, li_10, li_11, li_12, li_13, li_14, li_15, li_16, li_17, li_18, li_19, li_20, li_30, li_31, li_32, li_33, li_40, li_41, li_42, li_43, li_45, li_48, li_56, li_57, li_59, li_60, li_61, li_64, li_91, li_97, li_99, li_100, li_122, li_150, li_160, li_200, li_201, li_255, li_300, li_303, li_304, li_305, li_306, li_312, li_400, li_500, li_999, li_1003, li_3099, li_99999, li_100000, li_1000000, li_65, li_23, li_neg]
    rw [ic_le_f hj (by omega), if_neg n10, hk, ic_eq_f (by omega) (by omega) (by omega), ic_eq_f (by omega) (by omega) (by omega), qa_bl1, pu_ck]
    rfl
  · intro x k j hj hk hx y z z2 b h1 h2 h3
    have hk2 : k = 43 ∨ k = 45 := hk
    have h40 : b_X4_readsSum_40 rec x (nI (opN σ)) (nI j) = some (.inl (z2, b, nI (j + 1))) := by
      unfold b_X4_readsSum_40
      simp only [li_0, li_1, li_2, li_3, li_4, li_5, li_6, li_7, li_8, li_9, li_10, li_11, li_12, li_13, li_14, li_15, li_16, li_17, li_18, li_19, li_20, li_30, li_31, li_32, li_33, li_40, li_41, li_42, li_43, li_45, li_48, li_56, li_57, li_59, li_60, li_61, li_64, li_91, li_97, li_99, li_100, li_122, li_150, li_160, li_200, li_201, li_255, li_300, li_303, li_304, li_305, li_306, li_312, li_400, li_500, li_999, li_1003, li_3099, li_99999, li_100000, li_1000000, li_65, li_23, li_neg]
      rw [hx, pu_let, h1, Option.bind_some, h2, Option.bind_some]
      show Option.bind (f_X5_adds z (nM k)) _ = _
      rw [h3, Option.bind_some, pu_add, pu_let]
    show b_X4_readsSum_10 rec x (nI (opN σ)) (nI 1) (nI j) = _
    unfold b_X4_readsSum_10
    simp only [li_0, li_1, li_2, li_3, li_4, li_5, li_6, li_7, li_8, li_9, li_10, li_11, li_12, li_13, li_14, li_15, li_16, li_17, li_18, li_19, li_20, li_30, li_31, li_32, li_33, li_40, li_41, li_42, li_43, li_45, li_48, li_56, li_57, li_59, li_60, li_61, li_64, li_91, li_97, li_99, li_100, li_122, li_150, li_160, li_200, li_201, li_255, li_300, li_303, li_304, li_305, li_306, li_312, li_400, li_500, li_999, li_1003, li_3099, li_99999, li_100000, li_1000000, li_65, li_23, li_neg]
    rw [ic_le_f hj (by omega), if_neg n10, hx, h40]
    rcases hk2 with w | w
    · rw [ic_eq_t w]
    · rw [ic_eq_f (by omega) (by omega) (by omega), ic_eq_t w]
theorem kTe {m : qaM} {B : Nat → Nat} {L N p a : Nat} {σ o : List Nat} {x : qaM} {rec : Nat → qaM → Int32 → Option (Int32 × qaM)} {ok : Nat → Nat → Prop} (t : TPb m B L) (hm : m 1 0 = nI N) (hN : N < 6) (R : RDk m B L N rec ok) (hok : ok 5 (opN σ)) (hop : opN σ ≤ 5) (hpre : preT 4 (tknd B L p) a σ) (c : C6 N m x) (kx : tkC x B L p) (u : ouC x N o) (hp : p ≤ L) (hpo : o.length ≤ p) : RSc m B L N 4 p a σ o (f_X4_readsTerm rec x (nI (opN σ))) := by
  have hpre2 : preT 5 (tknd B L p) a σ := by
    obtain ⟨q1, q2, q3, q4, q5, q6, q7⟩ := hpre
    refine ⟨fun z => by omega, fun z => ?_, fun z => ?_, fun z => by omega, fun z => ?_, fun z => ?_, fun z => ?_⟩
    all_goals first | omega | exact q6 (by omega) | exact q7 (by omega) | exact trk.mo (by omega) (q1 rfl) | exact trk.mo (by omega) (q2 rfl) | exact trk.mo (by omega) (q4 rfl)
  have htr : trk (levT 4) σ := by
    obtain ⟨q1, q2, q3, q4, q5, q6, q7⟩ := hpre
    first | exact q1 rfl | exact q2 rfl | exact q4 rfl | exact q5 rfl
  obtain ⟨b1, x1, r1, r2, r3⟩ := R 5 p a σ o x (by omega) hok hpre2 hop c kx u hp hpo
  unfold f_X4_readsTerm
  simp only [li_0, li_1, li_2, li_3, li_4, li_5, li_6, li_7, li_8, li_9, li_10, li_11, li_12, li_13, li_14, li_15, li_16, li_17, li_18, li_19, li_20, li_30, li_31, li_32, li_33, li_40, li_41, li_42, li_43, li_45, li_48, li_56, li_57, li_59, li_60, li_61, li_64, li_91, li_97, li_99, li_100, li_122, li_150, li_160, li_200, li_201, li_255, li_300, li_303, li_304, li_305, li_306, li_312, li_400, li_500, li_999, li_1003, li_3099, li_99999, li_100000, li_1000000, li_65, li_23, li_neg]
  rw [r1, Option.bind_some, lp_X4_readsTerm_10]
  refine kloop t hm hN (fun k => k = 42) R (by omega) hok hop htr hpo ?_ ?_ ?_ ?_ ?_ x1 b1 r2 r3
  · intro k hk
    have hk2 : k = 42 := hk
    subst hk2
    exact ⟨by decide, by decide, by decide, by decide, by decide⟩
  · intro k τ q h hk
    have hk2 : ¬ (k = 42) := hk
    obtain ⟨h1, h2, h3, h4, h5⟩ := h
    refine ⟨fun z => ?_, fun z => ?_, fun z => ?_, fun z => ?_, fun z => ?_⟩
    all_goals first | omega | exact h1 (by omega) | exact h2 (by omega) | exact h3 (by omega) | exact h4 (by omega)
  · intro x j hj
    show b_X4_readsTerm_10 rec x (nI (opN σ)) (nI 0) (nI j) = _
    unfold b_X4_readsTerm_10
    simp only [li_0, li_1, li_2, li_3, li_4, li_5, li_6, li_7, li_8, li_9, li_10, li_11, li_12, li_13, li_14, li_15, li_16, li_17, li_18, li_19, li_20, li_30, li_31, li_32, li_33, li_40, li_41, li_42, li_43, li_45, li_48, li_56, li_57, li_59, li_60, li_61, li_64, li_91, li_97, li_99, li_100, li_122, li_150, li_160, li_200, li_201, li_255, li_300, li_303, li_304, li_305, li_306, li_312, li_400, li_500, li_999, li_1003, li_3099, li_99999, li_100000, li_1000000, li_65, li_23, li_neg]
    rw [if_pos trivial, qa_bl0, pu_ck]
    split <;> rfl
  · intro x k j hj hk4 hk hns
    have hns2 : ¬ (k = 42) := hns
    show b_X4_readsTerm_10 rec x (nI (opN σ)) (nI 1) (nI j) = _
    unfold b_X4_readsTerm_10
    simp only [li_0, li_1, li_2, li_3, li_4, li_5, li_6, li_7, li_8, li_9, li_10, li_11, li_12, li_13, li_14, li_15, li_16, li_17, li_18, li_19, li_20, li_30, li_31, li_32, li_33, li_40, li_41, li_42, li_43, li_45, li_48, li_56, li_57, li_59, li_60, li_61, li_64, li_91, li_97, li_99, li_100, li_122, li_150, li_160, li_200, li_201, li_255, li_300, li_303, li_304, li_305, li_306, li_312, li_400, li_500, li_999, li_1003, li_3099, li_99999, li_100000, li_1000000, li_65, li_23, li_neg]
    rw [ic_le_f hj (by omega), if_neg n10, hk, ic_eq_f hns2 (by omega) (by omega), qa_bl1, pu_ck]
    rfl
  · intro x k j hj hk hx y z z2 b h1 h2 h3
    have hk2 : k = 42 := hk
    subst hk2
    show b_X4_readsTerm_10 rec x (nI (opN σ)) (nI 1) (nI j) = _
    unfold b_X4_readsTerm_10
    simp only [li_0, li_1, li_2, li_3, li_4, li_5, li_6, li_7, li_8, li_9, li_10, li_11, li_12, li_13, li_14, li_15, li_16, li_17, li_18, li_19, li_20, li_30, li_31, li_32, li_33, li_40, li_41, li_42, li_43, li_45, li_48, li_56, li_57, li_59, li_60, li_61, li_64, li_91, li_97, li_99, li_100, li_122, li_150, li_160, li_200, li_201, li_255, li_300, li_303, li_304, li_305, li_306, li_312, li_400, li_500, li_999, li_1003, li_3099, li_99999, li_100000, li_1000000, li_65, li_23, li_neg]
    rw [ic_le_f hj (by omega), if_neg n10, hx, if_pos rfl, h1, Option.bind_some, h2, Option.bind_some]
    show Option.bind (f_X5_adds z (nM 42)) _ = _
    rw [h3, Option.bind_some, pu_add, pu_let]
