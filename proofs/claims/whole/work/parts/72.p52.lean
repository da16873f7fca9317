/-! PURE: sheets: film, sheet, cell, copy -/
theorem fillL {ρ : Type} {f : qaM × Int32 → Option ((qaM × Int32) ⊕ ρ)} {g : qaM → Option ρ} (b base E : Nat) (val : Nat → Int32) (m : qaM) (hE : E < 1900)
    (hs : ∀ (x : qaM) (j : Nat), j < E → qF [b] m x → (∀ k : Nat, x b k = if base ≤ k ∧ k < base + j then val (k - base) else m b k) → f (x, nI j) = some (.inl (qa_st x b (base + j) (val j), nI (j + 1))))
    (he : ∀ x : qaM, qF [b] m x → f (x, nI E) = qa_inr (g x)) :
    ∃ m2, qa_lp f qa_F (m, nI 0) = g m2 ∧ (∀ k : Nat, m2 b k = if base ≤ k ∧ k < base + E then val (k - base) else m b k) ∧ qF [b] m m2 := by
  have main : ∀ (d j fuel : Nat) (x : qaM), j + d = E → d < fuel → qF [b] m x → (∀ k : Nat, x b k = if base ≤ k ∧ k < base + j then val (k - base) else m b k) →
      ∃ m2, qa_lp f fuel (x, nI j) = g m2 ∧ (∀ k : Nat, m2 b k = if base ≤ k ∧ k < base + E then val (k - base) else m b k) ∧ qF [b] m m2 := by
    intro d
    induction d with
    | zero =>
      intro j fuel x hj hd hf hx
      obtain ⟨fu, rfl⟩ : ∃ fu, fuel = fu + 1 := ⟨fuel - 1, by omega⟩
      have : j = E := by omega
      subst this
      refine ⟨x, ?_, hx, hf⟩
      rw [qa_lp, he x hf]
      cases g x <;> rfl
    | succ d ih =>
      intro j fuel x hj hd hf hx
      obtain ⟨fu, rfl⟩ : ∃ fu, fuel = fu + 1 := ⟨fuel - 1, by omega⟩
      obtain ⟨m2, h1, h2⟩ := ih (j + 1) fu (qa_st x b (base + j) (val j)) (by omega) (by omega) (hf.stl (by simp)) (fun k => by
        rw [st_s]
        by_cases q : k = base + j
        · rw [q, up_s, if_pos ⟨by omega, by omega⟩, show base + j - base = j by omega]
        · rw [up_n q, hx k]
          by_cases z : base ≤ k ∧ k < base + j
          · rw [if_pos z, if_pos ⟨z.1, by omega⟩]
          · rw [if_neg z, if_neg (by omega)])
      refine ⟨m2, ?_, h2⟩
      rw [qa_lp, hs x j (by omega) hf hx]
      exact h1
  exact main E 0 qa_F m (by omega) (by unfold qa_F; omega) (qF.rf _ _) (fun k => by rw [if_neg (by omega)])
theorem Rel.sht {m m2 : qaM} {H : HS} {N : Nat} {S : SF} (h : RelD m H N S) (f : qF [4, 5, 20, 21, 22, 23, 24, 25, 33, 34, 35, 36, 37, 38, 39, 40, 41, 48, 49, 50, 54, 55, 56, 57, 58, 59] m m2) (o : o36l [37, 38, 39, 43, 44, 46] m m2) (c2 : MH m2 H) (s2 : SH m2) : Rel m2 := by
  obtain ⟨a, b, c, d, e, t, p, k, s, nt⟩ := h
  exact ⟨H, N, S, a.F f (by decide) (by decide) (by decide) (by decide) (by decide) (by decide), c2, c, d, e, t.F f (by decide) (by decide) (by decide) (by decide) (by decide) (by decide) o (by decide), p.F f (by decide) (by decide) (by decide) o (by decide),
    k.F f (by decide) (by decide) (by decide) (by decide) (by decide) (by decide) (by decide) (by decide) (by decide) (by decide) o (by decide) (by decide) (by decide) (by decide) (by decide) (Nat.le_refl _) (fun _ _ => ⟨rfl, rfl⟩),
    s2, nt.F (f 8 (by decide)) rfl⟩
theorem kmakes {m : qaM} {s z : Nat} (w : Int32) (hs : s < 4) (hz : z ≤ 40) : ∃ m2, f_X3_makes m (nI s) w (nI z) = some m2 ∧ m2 33 = upd (m 33) s w ∧ m2 34 = upd (m 34) s (nI z) ∧ (∀ k : Nat, m2 35 k = if 40 * s ≤ k ∧ k < 40 * s + 40 then nI 0 else m 35 k) ∧ qF [33, 34, 35] m m2 := by
  have f1 : qF [33, 34] m (qa_st (qa_st m 33 s w) 34 s (nI z)) := ((qF.rf _ m).stl (by simp)).stl (by simp)
  obtain ⟨m2, h1, h2, h3⟩ := fillL (f := fun q : qaM × Int32 => b_X3_makes_34 q.1 (nI s) q.2) (g := fun x => some x) 35 (40 * s) 40 (fun _ => nI 0) (qa_st (qa_st m 33 s w) 34 s (nI z)) (by omega) (by
    intro x j hj hf hx
    show b_X3_makes_34 x (nI s) (nI j) = _
    unfold b_X3_makes_34
    ((try simp only [li_0, li_1, li_2, li_3, li_4, li_5, li_6, li_7, li_8, li_9, li_10, li_11, li_12, li_13, li_14, li_15, li_16, li_17, li_18, li_19, li_20, li_30, li_31, li_32, li_33, li_40, li_41, li_42, li_43, li_45, li_48, li_56, li_57, li_59, li_60, li_61, li_64, li_91, li_97, li_99, li_100, li_122, li_150, li_160, li_200, li_201, li_255, li_300, li_303, li_304, li_305, li_306, li_312, li_400, li_500, li_999, li_1003, li_3099, li_99999, li_100000, li_1000000, li_65, li_23, li_neg]); (try simp (disch := omega) only [ic_le_f, ic_le_t, ic_lt_f, ic_lt_t, ic_eq_f, ic_eq_t, ic_im, ic_mi, ic_mm_t, ic_mm_f, ic_mlt, ic_mle, ic_ilem, ic_iltm, ic_mmle_t, ic_mmle_f, pu_add, pu_mul, pu_in, pu_ck, pu_let, pu_cl, pu_cpok, pu_inr, Option.bind_some, ite_true, ite_false, pu_dm, pu_dv, pu_sub, nt_dm, if_true, if_false]))
    rw [show s * 40 + j = 40 * s + j by omega]) (by
    intro x hf
    show b_X3_makes_34 x (nI s) (nI 40) = _
    unfold b_X3_makes_34
    ((try simp only [li_0, li_1, li_2, li_3, li_4, li_5, li_6, li_7, li_8, li_9, li_10, li_11, li_12, li_13, li_14, li_15, li_16, li_17, li_18, li_19, li_20, li_30, li_31, li_32, li_33, li_40, li_41, li_42, li_43, li_45, li_48, li_56, li_57, li_59, li_60, li_61, li_64, li_91, li_97, li_99, li_100, li_122, li_150, li_160, li_200, li_201, li_255, li_300, li_303, li_304, li_305, li_306, li_312, li_400, li_500, li_999, li_1003, li_3099, li_99999, li_100000, li_1000000, li_65, li_23, li_neg]); (try simp (disch := omega) only [ic_le_f, ic_le_t, ic_lt_f, ic_lt_t, ic_eq_f, ic_eq_t, ic_im, ic_mi, ic_mm_t, ic_mm_f, ic_mlt, ic_mle, ic_ilem, ic_iltm, ic_mmle_t, ic_mmle_f, pu_add, pu_mul, pu_in, pu_ck, pu_let, pu_cl, pu_cpok, pu_inr, Option.bind_some, ite_true, ite_false, pu_dm, pu_dv, pu_sub, nt_dm, if_true, if_false])))
  refine ⟨m2, ?_, ?_, ?_, fun k => ?_, (f1.mo (by simp)).t2 h3 (by simp)⟩
  · ((try simp only [f_X3_makes, f_X6_isSheet, li_0, li_1, li_2, li_3, li_4, li_5, li_6, li_7, li_8, li_9, li_10, li_11, li_12, li_13, li_14, li_15, li_16, li_17, li_18, li_19, li_20, li_30, li_31, li_32, li_33, li_40, li_41, li_42, li_43, li_45, li_48, li_56, li_57, li_59, li_60, li_61, li_64, li_91, li_97, li_99, li_100, li_122, li_150, li_160, li_200, li_201, li_255, li_300, li_303, li_304, li_305, li_306, li_312, li_400, li_500, li_999, li_1003, li_3099, li_99999, li_100000, li_1000000, li_65, li_23, li_neg]); (try simp (disch := omega) only [f_X3_makes, f_X6_isSheet, ic_le_f, ic_le_t, ic_lt_f, ic_lt_t, ic_eq_f, ic_eq_t, ic_im, ic_mi, ic_mm_t, ic_mm_f, ic_mlt, ic_mle, ic_ilem, ic_iltm, ic_mmle_t, ic_mmle_f, pu_add, pu_mul, pu_in, pu_ck, pu_let, pu_cl, pu_cpok, pu_inr, Option.bind_some, ite_true, ite_false, pu_dm, pu_dv, pu_sub, nt_dm, if_true, if_false]))
    rw [lp_X3_makes_34]
    exact h1
  · rw [h3 33 (by decide), st_n (by omega), st_s]
  · rw [h3 34 (by decide), st_s, st_n (by omega)]
  · rw [h2 k]
    by_cases q : 40 * s ≤ k ∧ k < 40 * s + 40
    · rw [if_pos q, if_pos q]
    · rw [if_neg q, if_neg q, f1 35 (by decide)]
/-- a number as a sheet of a sort holds it -/
def cvS (w v : Int32) : Int32 := if w = nI 0 then v.toInt8.toInt32 else if w = nI 1 then v.toInt16.toInt32 else v
theorem kwrites {m : qaM} {s i z : Nat} {v : Int32} (hs : s < 4) (h34 : m 34 s = nI z) (hi : i < z) (hz : z ≤ 40) : f_X3_writes m (nI s) (nI i) v = some (qa_st m 35 (40 * s + i) (cvS (m 33 s) v)) := by
  have hp : f_X3_isPlace m (nI s) (nI i) = some (nI 1) := by
    ((try simp only [f_X3_isPlace, f_X6_isSheet, li_0, li_1, li_2, li_3, li_4, li_5, li_6, li_7, li_8, li_9, li_10, li_11, li_12, li_13, li_14, li_15, li_16, li_17, li_18, li_19, li_20, li_30, li_31, li_32, li_33, li_40, li_41, li_42, li_43, li_45, li_48, li_56, li_57, li_59, li_60, li_61, li_64, li_91, li_97, li_99, li_100, li_122, li_150, li_160, li_200, li_201, li_255, li_300, li_303, li_304, li_305, li_306, li_312, li_400, li_500, li_999, li_1003, li_3099, li_99999, li_100000, li_1000000, li_65, li_23, li_neg]); (try simp (disch := omega) only [f_X3_isPlace, f_X6_isSheet, ic_le_f, ic_le_t, ic_lt_f, ic_lt_t, ic_eq_f, ic_eq_t, ic_im, ic_mi, ic_mm_t, ic_mm_f, ic_mlt, ic_mle, ic_ilem, ic_iltm, ic_mmle_t, ic_mmle_f, pu_add, pu_mul, pu_in, pu_ck, pu_let, pu_cl, pu_cpok, pu_inr, Option.bind_some, ite_true, ite_false, pu_dm, pu_dv, pu_sub, nt_dm, if_true, if_false]))
    rw [h34]
    ((try simp only [li_0, li_1, li_2, li_3, li_4, li_5, li_6, li_7, li_8, li_9, li_10, li_11, li_12, li_13, li_14, li_15, li_16, li_17, li_18, li_19, li_20, li_30, li_31, li_32, li_33, li_40, li_41, li_42, li_43, li_45, li_48, li_56, li_57, li_59, li_60, li_61, li_64, li_91, li_97, li_99, li_100, li_122, li_150, li_160, li_200, li_201, li_255, li_300, li_303, li_304, li_305, li_306, li_312, li_400, li_500, li_999, li_1003, li_3099, li_99999, li_100000, li_1000000, li_65, li_23, li_neg]); (try simp (disch := omega) only [ic_le_f, ic_le_t, ic_lt_f, ic_lt_t, ic_eq_f, ic_eq_t, ic_im, ic_mi, ic_mm_t, ic_mm_f, ic_mlt, ic_mle, ic_ilem, ic_iltm, ic_mmle_t, ic_mmle_f, pu_add, pu_mul, pu_in, pu_ck, pu_let, pu_cl, pu_cpok, pu_inr, Option.bind_some, ite_true, ite_false, pu_dm, pu_dv, pu_sub, nt_dm, if_true, if_false]))
  unfold f_X3_writes
  rw [hp]
  unfold cvS
  ((try simp only [li_0, li_1, li_2, li_3, li_4, li_5, li_6, li_7, li_8, li_9, li_10, li_11, li_12, li_13, li_14, li_15, li_16, li_17, li_18, li_19, li_20, li_30, li_31, li_32, li_33, li_40, li_41, li_42, li_43, li_45, li_48, li_56, li_57, li_59, li_60, li_61, li_64, li_91, li_97, li_99, li_100, li_122, li_150, li_160, li_200, li_201, li_255, li_300, li_303, li_304, li_305, li_306, li_312, li_400, li_500, li_999, li_1003, li_3099, li_99999, li_100000, li_1000000, li_65, li_23, li_neg]); (try simp (disch := omega) only [ic_le_f, ic_le_t, ic_lt_f, ic_lt_t, ic_eq_f, ic_eq_t, ic_im, ic_mi, ic_mm_t, ic_mm_f, ic_mlt, ic_mle, ic_ilem, ic_iltm, ic_mmle_t, ic_mmle_f, pu_add, pu_mul, pu_in, pu_ck, pu_let, pu_cl, pu_cpok, pu_inr, Option.bind_some, ite_true, ite_false, pu_dm, pu_dv, pu_sub, nt_dm, if_true, if_false]))
  by_cases q0 : m 33 s = nI 0
  · rw [if_pos q0, if_pos q0]
    ((try simp only [b_X3_writes_49, li_0, li_1, li_2, li_3, li_4, li_5, li_6, li_7, li_8, li_9, li_10, li_11, li_12, li_13, li_14, li_15, li_16, li_17, li_18, li_19, li_20, li_30, li_31, li_32, li_33, li_40, li_41, li_42, li_43, li_45, li_48, li_56, li_57, li_59, li_60, li_61, li_64, li_91, li_97, li_99, li_100, li_122, li_150, li_160, li_200, li_201, li_255, li_300, li_303, li_304, li_305, li_306, li_312, li_400, li_500, li_999, li_1003, li_3099, li_99999, li_100000, li_1000000, li_65, li_23, li_neg]); (try simp (disch := omega) only [b_X3_writes_49, ic_le_f, ic_le_t, ic_lt_f, ic_lt_t, ic_eq_f, ic_eq_t, ic_im, ic_mi, ic_mm_t, ic_mm_f, ic_mlt, ic_mle, ic_ilem, ic_iltm, ic_mmle_t, ic_mmle_f, pu_add, pu_mul, pu_in, pu_ck, pu_let, pu_cl, pu_cpok, pu_inr, Option.bind_some, ite_true, ite_false, pu_dm, pu_dv, pu_sub, nt_dm, if_true, if_false]))
    rw [show s * 40 + i = 40 * s + i by omega]
  · rw [if_neg q0, if_neg q0]
    by_cases q1 : m 33 s = nI 1
    · rw [if_pos q1, if_pos q1]
      ((try simp only [b_X3_writes_49, li_0, li_1, li_2, li_3, li_4, li_5, li_6, li_7, li_8, li_9, li_10, li_11, li_12, li_13, li_14, li_15, li_16, li_17, li_18, li_19, li_20, li_30, li_31, li_32, li_33, li_40, li_41, li_42, li_43, li_45, li_48, li_56, li_57, li_59, li_60, li_61, li_64, li_91, li_97, li_99, li_100, li_122, li_150, li_160, li_200, li_201, li_255, li_300, li_303, li_304, li_305, li_306, li_312, li_400, li_500, li_999, li_1003, li_3099, li_99999, li_100000, li_1000000, li_65, li_23, li_neg]); (try simp (disch := omega) only [b_X3_writes_49, ic_le_f, ic_le_t, ic_lt_f, ic_lt_t, ic_eq_f, ic_eq_t, ic_im, ic_mi, ic_mm_t, ic_mm_f, ic_mlt, ic_mle, ic_ilem, ic_iltm, ic_mmle_t, ic_mmle_f, pu_add, pu_mul, pu_in, pu_ck, pu_let, pu_cl, pu_cpok, pu_inr, Option.bind_some, ite_true, ite_false, pu_dm, pu_dv, pu_sub, nt_dm, if_true, if_false]))
      rw [show s * 40 + i = 40 * s + i by omega]
    · rw [if_neg q1, if_neg q1]
      ((try simp only [b_X3_writes_49, li_0, li_1, li_2, li_3, li_4, li_5, li_6, li_7, li_8, li_9, li_10, li_11, li_12, li_13, li_14, li_15, li_16, li_17, li_18, li_19, li_20, li_30, li_31, li_32, li_33, li_40, li_41, li_42, li_43, li_45, li_48, li_56, li_57, li_59, li_60, li_61, li_64, li_91, li_97, li_99, li_100, li_122, li_150, li_160, li_200, li_201, li_255, li_300, li_303, li_304, li_305, li_306, li_312, li_400, li_500, li_999, li_1003, li_3099, li_99999, li_100000, li_1000000, li_65, li_23, li_neg]); (try simp (disch := omega) only [b_X3_writes_49, ic_le_f, ic_le_t, ic_lt_f, ic_lt_t, ic_eq_f, ic_eq_t, ic_im, ic_mi, ic_mm_t, ic_mm_f, ic_mlt, ic_mle, ic_ilem, ic_iltm, ic_mmle_t, ic_mmle_f, pu_add, pu_mul, pu_in, pu_ck, pu_let, pu_cl, pu_cpok, pu_inr, Option.bind_some, ite_true, ite_false, pu_dm, pu_dv, pu_sub, nt_dm, if_true, if_false]))
      rw [show s * 40 + i = 40 * s + i by omega]
theorem i16_small : ∀ w : Nat, w < 1000 → (nI w).toInt16.toInt32 = nI w := by decide +kernel
/-- one sheet anew, the others as they were -/
theorem SH.one {m m2 : qaM} (h : SH m) {s : Nat} (hs : s < 4) {w : Int32} {z : Nat} (hz : z ≤ 40) (hw : w = nM 1 ∨ ∃ t : Nat, t < 3 ∧ w = nI t) (e33 : m2 33 = upd (m 33) s w) (e34 : m2 34 = upd (m 34) s (nI z)) (e48 : m2 48 = upd (m 48) s w) (e49 : m2 49 = upd (m 49) s (nI z))
    (hc : ∀ k : Nat, k < 160 → m2 50 k = m2 35 k) : SH m2 := by
  refine ⟨fun a ha => ?_, hc⟩
  rw [e33, e34, e48, e49]
  by_cases q : a = s
  · rw [q, up_s, up_s, up_s, up_s]
    exact ⟨hw, rfl, z, hz, rfl, rfl⟩
  · rw [up_n q, up_n q, up_n q, up_n q]
    exact h.1 a ha
theorem qp_film : qaP_film Rel := by
  intro m a b h
  obtain ⟨H, N, S, hD⟩ := h
  have ⟨c, r, v, hl, hw, t, _, _, sh, nt⟩ := hD
  have n8 := v.n8
  rcases upTo 3 4 rfl (by omega) a with ⟨s, hs, rfl⟩ | hx
  rotate_left
  · rcases hx with ⟨h1, h2, h3, h4, h5, h6⟩ | ⟨h1, h2, h3, h4, h5, h6⟩
    all_goals
      refine ⟨nM 2, m, m, ?_, ?_, Rel.mk hD⟩
      · ((try simp only [f_X6_film, f_X6_isWeeks, f_X6_isSheet, f_X6_isSeed, f_X6_isByte, h1, h2, h3, h4, h5, h6, li_0, li_1, li_2, li_3, li_4, li_5, li_6, li_7, li_8, li_9, li_10, li_11, li_12, li_13, li_14, li_15, li_16, li_17, li_18, li_19, li_20, li_30, li_31, li_32, li_33, li_40, li_41, li_42, li_43, li_45, li_48, li_56, li_57, li_59, li_60, li_61, li_64, li_91, li_97, li_99, li_100, li_122, li_150, li_160, li_200, li_201, li_255, li_300, li_303, li_304, li_305, li_306, li_312, li_400, li_500, li_999, li_1003, li_3099, li_99999, li_100000, li_1000000, li_65, li_23, li_neg]); (try simp (disch := omega) only [f_X6_film, f_X6_isWeeks, f_X6_isSheet, f_X6_isSeed, f_X6_isByte, h1, h2, h3, h4, h5, h6, ic_le_f, ic_le_t, ic_lt_f, ic_lt_t, ic_eq_f, ic_eq_t, ic_im, ic_mi, ic_mm_t, ic_mm_f, ic_mlt, ic_mle, ic_ilem, ic_iltm, ic_mmle_t, ic_mmle_f, pu_add, pu_mul, pu_in, pu_ck, pu_let, pu_cl, pu_cpok, pu_inr, Option.bind_some, ite_true, ite_false, pu_dm, pu_dv, pu_sub, nt_dm, if_true, if_false]))
      · ((try simp only [f_X7_film, f_X7_in, f_X7_areWeeks, f_X7_isByte, qa_bl0, qa_bl1, h1, h2, h3, h4, h5, h6, li_0, li_1, li_2, li_3, li_4, li_5, li_6, li_7, li_8, li_9, li_10, li_11, li_12, li_13, li_14, li_15, li_16, li_17, li_18, li_19, li_20, li_30, li_31, li_32, li_33, li_40, li_41, li_42, li_43, li_45, li_48, li_56, li_57, li_59, li_60, li_61, li_64, li_91, li_97, li_99, li_100, li_122, li_150, li_160, li_200, li_201, li_255, li_300, li_303, li_304, li_305, li_306, li_312, li_400, li_500, li_999, li_1003, li_3099, li_99999, li_100000, li_1000000, li_65, li_23, li_neg]); (try simp (disch := omega) only [f_X7_film, f_X7_in, f_X7_areWeeks, f_X7_isByte, qa_bl0, qa_bl1, h1, h2, h3, h4, h5, h6, ic_le_f, ic_le_t, ic_lt_f, ic_lt_t, ic_eq_f, ic_eq_t, ic_im, ic_mi, ic_mm_t, ic_mm_f, ic_mlt, ic_mle, ic_ilem, ic_iltm, ic_mmle_t, ic_mmle_f, pu_add, pu_mul, pu_in, pu_ck, pu_let, pu_cl, pu_cpok, pu_inr, Option.bind_some, ite_true, ite_false, pu_dm, pu_dv, pu_sub, nt_dm, if_true, if_false]))
  rcases upTo 200 201 rfl (by omega) b with ⟨n, hn, rfl⟩ | hx
  rotate_left
  · rcases hx with ⟨h1, h2, h3, h4, h5, h6⟩ | ⟨h1, h2, h3, h4, h5, h6⟩
    all_goals
      refine ⟨nM 2, m, m, ?_, ?_, Rel.mk hD⟩
      · ((try simp only [f_X6_film, f_X6_isWeeks, f_X6_isSheet, f_X6_isSeed, f_X6_isByte, h1, h2, h3, h4, h5, h6, li_0, li_1, li_2, li_3, li_4, li_5, li_6, li_7, li_8, li_9, li_10, li_11, li_12, li_13, li_14, li_15, li_16, li_17, li_18, li_19, li_20, li_30, li_31, li_32, li_33, li_40, li_41, li_42, li_43, li_45, li_48, li_56, li_57, li_59, li_60, li_61, li_64, li_91, li_97, li_99, li_100, li_122, li_150, li_160, li_200, li_201, li_255, li_300, li_303, li_304, li_305, li_306, li_312, li_400, li_500, li_999, li_1003, li_3099, li_99999, li_100000, li_1000000, li_65, li_23, li_neg]); (try simp (disch := omega) only [f_X6_film, f_X6_isWeeks, f_X6_isSheet, f_X6_isSeed, f_X6_isByte, h1, h2, h3, h4, h5, h6, ic_le_f, ic_le_t, ic_lt_f, ic_lt_t, ic_eq_f, ic_eq_t, ic_im, ic_mi, ic_mm_t, ic_mm_f, ic_mlt, ic_mle, ic_ilem, ic_iltm, ic_mmle_t, ic_mmle_f, pu_add, pu_mul, pu_in, pu_ck, pu_let, pu_cl, pu_cpok, pu_inr, Option.bind_some, ite_true, ite_false, pu_dm, pu_dv, pu_sub, nt_dm, if_true, if_false]))
      · ((try simp only [f_X7_film, f_X7_in, f_X7_areWeeks, f_X7_isByte, qa_bl0, qa_bl1, h1, h2, h3, h4, h5, h6, li_0, li_1, li_2, li_3, li_4, li_5, li_6, li_7, li_8, li_9, li_10, li_11, li_12, li_13, li_14, li_15, li_16, li_17, li_18, li_19, li_20, li_30, li_31, li_32, li_33, li_40, li_41, li_42, li_43, li_45, li_48, li_56, li_57, li_59, li_60, li_61, li_64, li_91, li_97, li_99, li_100, li_122, li_150, li_160, li_200, li_201, li_255, li_300, li_303, li_304, li_305, li_306, li_312, li_400, li_500, li_999, li_1003, li_3099, li_99999, li_100000, li_1000000, li_65, li_23, li_neg]); (try simp (disch := omega) only [f_X7_film, f_X7_in, f_X7_areWeeks, f_X7_isByte, qa_bl0, qa_bl1, h1, h2, h3, h4, h5, h6, ic_le_f, ic_le_t, ic_lt_f, ic_lt_t, ic_eq_f, ic_eq_t, ic_im, ic_mi, ic_mm_t, ic_mm_f, ic_mlt, ic_mle, ic_ilem, ic_iltm, ic_mmle_t, ic_mmle_f, pu_add, pu_mul, pu_in, pu_ck, pu_let, pu_cl, pu_cpok, pu_inr, Option.bind_some, ite_true, ite_false, pu_dm, pu_dv, pu_sub, nt_dm, if_true, if_false]))
  have hv := thk_V (S := S) (n := n) v
  obtain ⟨A, hA⟩ : ∃ A : Nat → AL, A = (thk S n H).1.A := ⟨_, rfl⟩
  have hav : ∀ i, (A i) 2 ≤ 999 := fun i => by
    rw [hA]
    exact (hv.1.1.av i).2.2.1
  obtain ⟨x0, a1, a2, a3⟩ := kbeg c (qF.rf kL m)
  obtain ⟨x1, b1, b2, b3⟩ := kthk (n := n) a2 v (t.2.2.2.2.1.kL a3) t.2.2.2.2.2.2 hl (by omega) a3
  have h21 : x1 21 0 = nI H.n := by
    rw [← hv.2.1]
    exact b2.1.1.1
  obtain ⟨x2, d1, d2, d3, d4, d5⟩ := kmakes (m := x1) (s := s) (z := H.n) (nI 1) (by omega) (by omega)
  have b22 : CY x2 20 (thk S n H) := ⟨b2.1.F d5 (by decide) (by decide) (by decide) (by decide) (by decide) (by decide), b2.2.F d5 (by decide)⟩
  have h33 : x2 33 s = nI 1 := by rw [d2, up_s]
  have h34 : x2 34 s = nI H.n := by rw [d3, up_s]
  obtain ⟨x3, e1, e2, e3⟩ := fillL (f := fun q : qaM × Int32 => b_X6_film_43 q.1 (nI s) q.2) (g := fun x => some (nI H.n, x)) 35 (40 * s) H.n (fun i => nI (A i 2)) x2 (by omega) (by
    intro x j hj hf hx
    show b_X6_film_43 x (nI s) (nI j) = _
    have bx : CH x 20 (thk S n H).1 := b22.1.F hf (by decide) (by decide) (by decide) (by decide) (by decide) (by decide)
    have hx21 : x 21 0 = nI H.n := by rw [hf 21 (by decide), d5 21 (by decide), h21]
    have hfa := cfact (h := 20) (i := j) (k := 2) bx (by omega) (by omega) (by omega)
    have hwr := kwrites (m := x) (s := s) (i := j) (z := H.n) (v := nI (A j 2)) (by omega) (by rw [hf 34 (by decide), h34]) hj (by omega)
    rw [hf 33 (by decide), h33] at hwr
    have hcv : cvS (nI 1) (nI (A j 2)) = nI (A j 2) := by
      unfold cvS
      rw [if_neg (by decide), if_pos rfl]
      exact i16_small _ (by have := hav j; omega)
    rw [hcv] at hwr
    unfold b_X6_film_43
    rw [hx21]
    ((try simp only [li_0, li_1, li_2, li_3, li_4, li_5, li_6, li_7, li_8, li_9, li_10, li_11, li_12, li_13, li_14, li_15, li_16, li_17, li_18, li_19, li_20, li_30, li_31, li_32, li_33, li_40, li_41, li_42, li_43, li_45, li_48, li_56, li_57, li_59, li_60, li_61, li_64, li_91, li_97, li_99, li_100, li_122, li_150, li_160, li_200, li_201, li_255, li_300, li_303, li_304, li_305, li_306, li_312, li_400, li_500, li_999, li_1003, li_3099, li_99999, li_100000, li_1000000, li_65, li_23, li_neg]); (try simp (disch := omega) only [ic_le_f, ic_le_t, ic_lt_f, ic_lt_t, ic_eq_f, ic_eq_t, ic_im, ic_mi, ic_mm_t, ic_mm_f, ic_mlt, ic_mle, ic_ilem, ic_iltm, ic_mmle_t, ic_mmle_f, pu_add, pu_mul, pu_in, pu_ck, pu_let, pu_cl, pu_cpok, pu_inr, Option.bind_some, ite_true, ite_false, pu_dm, pu_dv, pu_sub, nt_dm, if_true, if_false]))
    rw [hfa, ← hA]
    ((try simp only [li_0, li_1, li_2, li_3, li_4, li_5, li_6, li_7, li_8, li_9, li_10, li_11, li_12, li_13, li_14, li_15, li_16, li_17, li_18, li_19, li_20, li_30, li_31, li_32, li_33, li_40, li_41, li_42, li_43, li_45, li_48, li_56, li_57, li_59, li_60, li_61, li_64, li_91, li_97, li_99, li_100, li_122, li_150, li_160, li_200, li_201, li_255, li_300, li_303, li_304, li_305, li_306, li_312, li_400, li_500, li_999, li_1003, li_3099, li_99999, li_100000, li_1000000, li_65, li_23, li_neg]); (try simp (disch := omega) only [ic_le_f, ic_le_t, ic_lt_f, ic_lt_t, ic_eq_f, ic_eq_t, ic_im, ic_mi, ic_mm_t, ic_mm_f, ic_mlt, ic_mle, ic_ilem, ic_iltm, ic_mmle_t, ic_mmle_f, pu_add, pu_mul, pu_in, pu_ck, pu_let, pu_cl, pu_cpok, pu_inr, Option.bind_some, ite_true, ite_false, pu_dm, pu_dv, pu_sub, nt_dm, if_true, if_false]))
    rw [hwr]
    ((try simp only [li_0, li_1, li_2, li_3, li_4, li_5, li_6, li_7, li_8, li_9, li_10, li_11, li_12, li_13, li_14, li_15, li_16, li_17, li_18, li_19, li_20, li_30, li_31, li_32, li_33, li_40, li_41, li_42, li_43, li_45, li_48, li_56, li_57, li_59, li_60, li_61, li_64, li_91, li_97, li_99, li_100, li_122, li_150, li_160, li_200, li_201, li_255, li_300, li_303, li_304, li_305, li_306, li_312, li_400, li_500, li_999, li_1003, li_3099, li_99999, li_100000, li_1000000, li_65, li_23, li_neg]); (try simp (disch := omega) only [ic_le_f, ic_le_t, ic_lt_f, ic_lt_t, ic_eq_f, ic_eq_t, ic_im, ic_mi, ic_mm_t, ic_mm_f, ic_mlt, ic_mle, ic_ilem, ic_iltm, ic_mmle_t, ic_mmle_f, pu_add, pu_mul, pu_in, pu_ck, pu_let, pu_cl, pu_cpok, pu_inr, Option.bind_some, ite_true, ite_false, pu_dm, pu_dv, pu_sub, nt_dm, if_true, if_false]))) (by
    intro x hf
    have hx21 : x 21 0 = nI H.n := by rw [hf 21 (by decide), d5 21 (by decide), h21]
    show b_X6_film_43 x (nI s) (nI H.n) = _
    unfold b_X6_film_43 b_X6_film_84
    rw [hx21]
    ((try simp only [li_0, li_1, li_2, li_3, li_4, li_5, li_6, li_7, li_8, li_9, li_10, li_11, li_12, li_13, li_14, li_15, li_16, li_17, li_18, li_19, li_20, li_30, li_31, li_32, li_33, li_40, li_41, li_42, li_43, li_45, li_48, li_56, li_57, li_59, li_60, li_61, li_64, li_91, li_97, li_99, li_100, li_122, li_150, li_160, li_200, li_201, li_255, li_300, li_303, li_304, li_305, li_306, li_312, li_400, li_500, li_999, li_1003, li_3099, li_99999, li_100000, li_1000000, li_65, li_23, li_neg]); (try simp (disch := omega) only [ic_le_f, ic_le_t, ic_lt_f, ic_lt_t, ic_eq_f, ic_eq_t, ic_im, ic_mi, ic_mm_t, ic_mm_f, ic_mlt, ic_mle, ic_ilem, ic_iltm, ic_mmle_t, ic_mmle_f, pu_add, pu_mul, pu_in, pu_ck, pu_let, pu_cl, pu_cpok, pu_inr, Option.bind_some, ite_true, ite_false, pu_dm, pu_dv, pu_sub, nt_dm, if_true, if_false])))
  have f3 : qF [4, 5, 20, 21, 22, 23, 24, 25, 33, 34, 35] m x3 := ((b3.mo (by simp [kL])).t2 d5 (by simp)).t2 e3 (by simp)
  have r3 : MH x3 H := r.cl f3 (by decide)
  obtain ⟨y1, go, g1, g2, g3, g4, g5, g6⟩ := r7thk (n := n) r3 v (t.2.2.2.2.2.1.F f3 (by decide) (by decide)) t.2.2.2.2.2.2 hl (by omega) (qF.rf _ _) (o36l.rf _ _)
  have y0 : y1 36 0 = nI H.n := g2.2.2.2.1
  have f4 : qF [48, 49] y1 (qa_st (qa_st y1 48 s (nI 1)) 49 s (nI H.n)) := ((qF.rf _ y1).stl (by simp)).stl (by simp)
  obtain ⟨y2, k1, k2, k3⟩ := fillL (f := fun q : qaM × Int32 => b_X7_film_43 q.1 (nI s) q.2) (g := fun x => some (nI H.n, x)) 50 (40 * s) 40 (fun i => if i < H.n then nI (A i 2) else nI 0) (qa_st (qa_st y1 48 s (nI 1)) 49 s (nI H.n)) (by omega) (by
    intro x j hj hf hx
    show b_X7_film_43 x (nI s) (nI j) = _
    have hx0 : x 36 0 = nI H.n := by rw [hf 36 (by decide), f4 36 (by decide), y0]
    unfold b_X7_film_43
    rw [hx0]
    rcases Nat.lt_or_ge j H.n with q | q
    · have hr : x 59 (6 * j) = nI (A j 2) := by
        rw [hf 59 (by decide), f4 59 (by decide), hA]
        exact g4 j 0 q (by omega) (by omega)
      ((try simp only [li_0, li_1, li_2, li_3, li_4, li_5, li_6, li_7, li_8, li_9, li_10, li_11, li_12, li_13, li_14, li_15, li_16, li_17, li_18, li_19, li_20, li_30, li_31, li_32, li_33, li_40, li_41, li_42, li_43, li_45, li_48, li_56, li_57, li_59, li_60, li_61, li_64, li_91, li_97, li_99, li_100, li_122, li_150, li_160, li_200, li_201, li_255, li_300, li_303, li_304, li_305, li_306, li_312, li_400, li_500, li_999, li_1003, li_3099, li_99999, li_100000, li_1000000, li_65, li_23, li_neg]); (try simp (disch := omega) only [ic_le_f, ic_le_t, ic_lt_f, ic_lt_t, ic_eq_f, ic_eq_t, ic_im, ic_mi, ic_mm_t, ic_mm_f, ic_mlt, ic_mle, ic_ilem, ic_iltm, ic_mmle_t, ic_mmle_f, pu_add, pu_mul, pu_in, pu_ck, pu_let, pu_cl, pu_cpok, pu_inr, Option.bind_some, ite_true, ite_false, pu_dm, pu_dv, pu_sub, nt_dm, if_true, if_false]))
      rw [r7within (by omega) (by omega)]
      have h7 : mnN 7 j = j := by
        unfold mnN
        split <;> omega
      rw [h7]
      ((try simp only [b_X7_film_86, li_0, li_1, li_2, li_3, li_4, li_5, li_6, li_7, li_8, li_9, li_10, li_11, li_12, li_13, li_14, li_15, li_16, li_17, li_18, li_19, li_20, li_30, li_31, li_32, li_33, li_40, li_41, li_42, li_43, li_45, li_48, li_56, li_57, li_59, li_60, li_61, li_64, li_91, li_97, li_99, li_100, li_122, li_150, li_160, li_200, li_201, li_255, li_300, li_303, li_304, li_305, li_306, li_312, li_400, li_500, li_999, li_1003, li_3099, li_99999, li_100000, li_1000000, li_65, li_23, li_neg]); (try simp (disch := omega) only [b_X7_film_86, ic_le_f, ic_le_t, ic_lt_f, ic_lt_t, ic_eq_f, ic_eq_t, ic_im, ic_mi, ic_mm_t, ic_mm_f, ic_mlt, ic_mle, ic_ilem, ic_iltm, ic_mmle_t, ic_mmle_f, pu_add, pu_mul, pu_in, pu_ck, pu_let, pu_cl, pu_cpok, pu_inr, Option.bind_some, ite_true, ite_false, pu_dm, pu_dv, pu_sub, nt_dm, if_true, if_false]))
      rw [hr, if_pos q]
    · ((try simp only [b_X7_film_86, li_0, li_1, li_2, li_3, li_4, li_5, li_6, li_7, li_8, li_9, li_10, li_11, li_12, li_13, li_14, li_15, li_16, li_17, li_18, li_19, li_20, li_30, li_31, li_32, li_33, li_40, li_41, li_42, li_43, li_45, li_48, li_56, li_57, li_59, li_60, li_61, li_64, li_91, li_97, li_99, li_100, li_122, li_150, li_160, li_200, li_201, li_255, li_300, li_303, li_304, li_305, li_306, li_312, li_400, li_500, li_999, li_1003, li_3099, li_99999, li_100000, li_1000000, li_65, li_23, li_neg]); (try simp (disch := omega) only [b_X7_film_86, ic_le_f, ic_le_t, ic_lt_f, ic_lt_t, ic_eq_f, ic_eq_t, ic_im, ic_mi, ic_mm_t, ic_mm_f, ic_mlt, ic_mle, ic_ilem, ic_iltm, ic_mmle_t, ic_mmle_f, pu_add, pu_mul, pu_in, pu_ck, pu_let, pu_cl, pu_cpok, pu_inr, Option.bind_some, ite_true, ite_false, pu_dm, pu_dv, pu_sub, nt_dm, if_true, if_false]))
      rw [if_neg (by omega)]) (by
    intro x hf
    have hx0 : x 36 0 = nI H.n := by rw [hf 36 (by decide), f4 36 (by decide), y0]
    show b_X7_film_43 x (nI s) (nI 40) = _
    unfold b_X7_film_43
    rw [hx0]
    ((try simp only [li_0, li_1, li_2, li_3, li_4, li_5, li_6, li_7, li_8, li_9, li_10, li_11, li_12, li_13, li_14, li_15, li_16, li_17, li_18, li_19, li_20, li_30, li_31, li_32, li_33, li_40, li_41, li_42, li_43, li_45, li_48, li_56, li_57, li_59, li_60, li_61, li_64, li_91, li_97, li_99, li_100, li_122, li_150, li_160, li_200, li_201, li_255, li_300, li_303, li_304, li_305, li_306, li_312, li_400, li_500, li_999, li_1003, li_3099, li_99999, li_100000, li_1000000, li_65, li_23, li_neg]); (try simp (disch := omega) only [ic_le_f, ic_le_t, ic_lt_f, ic_lt_t, ic_eq_f, ic_eq_t, ic_im, ic_mi, ic_mm_t, ic_mm_f, ic_mlt, ic_mle, ic_ilem, ic_iltm, ic_mmle_t, ic_mmle_f, pu_add, pu_mul, pu_in, pu_ck, pu_let, pu_cl, pu_cpok, pu_inr, Option.bind_some, ite_true, ite_false, pu_dm, pu_dv, pu_sub, nt_dm, if_true, if_false])))
  have f5 : qF [36, 37, 38, 39, 40, 41, 54, 55, 56, 57, 58, 59, 48, 49, 50] x3 y2 := ((g5.mo (by simp [rL])).t2 f4 (by simp)).t2 k3 (by simp)
  have o5 : o36l oL x3 y2 := (g6.tr (o36l.q (k := []) f4 (by simp)) (fun _ z => z) (by simp)).tr (o36l.q (k := []) k3 (by simp)) (fun _ z => z) (by simp)
  have e35 : ∀ k : Nat, x3 35 k = if 40 * s ≤ k ∧ k < 40 * s + 40 then (if k - 40 * s < H.n then nI (A (k - 40 * s) 2) else nI 0) else m 35 k := by
    intro k
    rw [e2 k]
    by_cases q : 40 * s ≤ k ∧ k < 40 * s + H.n
    · rw [if_pos q, if_pos (by omega), if_pos (by omega)]
    · rw [if_neg q, d4 k, b3 35 (by decide)]
      by_cases w : 40 * s ≤ k ∧ k < 40 * s + 40
      · rw [if_pos w, if_pos w, if_neg (by omega)]
      · rw [if_neg w, if_neg w]
  refine ⟨nI H.n, x3, y2, ?_, ?_, ?_⟩
  · ((try simp only [f_X6_film, f_X6_isSheet, f_X6_isWeeks, f_X6_thinks, li_0, li_1, li_2, li_3, li_4, li_5, li_6, li_7, li_8, li_9, li_10, li_11, li_12, li_13, li_14, li_15, li_16, li_17, li_18, li_19, li_20, li_30, li_31, li_32, li_33, li_40, li_41, li_42, li_43, li_45, li_48, li_56, li_57, li_59, li_60, li_61, li_64, li_91, li_97, li_99, li_100, li_122, li_150, li_160, li_200, li_201, li_255, li_300, li_303, li_304, li_305, li_306, li_312, li_400, li_500, li_999, li_1003, li_3099, li_99999, li_100000, li_1000000, li_65, li_23, li_neg]); (try simp (disch := omega) only [f_X6_film, f_X6_isSheet, f_X6_isWeeks, f_X6_thinks, ic_le_f, ic_le_t, ic_lt_f, ic_lt_t, ic_eq_f, ic_eq_t, ic_im, ic_mi, ic_mm_t, ic_mm_f, ic_mlt, ic_mle, ic_ilem, ic_iltm, ic_mmle_t, ic_mmle_f, pu_add, pu_mul, pu_in, pu_ck, pu_let, pu_cl, pu_cpok, pu_inr, Option.bind_some, ite_true, ite_false, pu_dm, pu_dv, pu_sub, nt_dm, if_true, if_false]))
    rw [a1]
    ((try simp only [li_0, li_1, li_2, li_3, li_4, li_5, li_6, li_7, li_8, li_9, li_10, li_11, li_12, li_13, li_14, li_15, li_16, li_17, li_18, li_19, li_20, li_30, li_31, li_32, li_33, li_40, li_41, li_42, li_43, li_45, li_48, li_56, li_57, li_59, li_60, li_61, li_64, li_91, li_97, li_99, li_100, li_122, li_150, li_160, li_200, li_201, li_255, li_300, li_303, li_304, li_305, li_306, li_312, li_400, li_500, li_999, li_1003, li_3099, li_99999, li_100000, li_1000000, li_65, li_23, li_neg]); (try simp (disch := omega) only [ic_le_f, ic_le_t, ic_lt_f, ic_lt_t, ic_eq_f, ic_eq_t, ic_im, ic_mi, ic_mm_t, ic_mm_f, ic_mlt, ic_mle, ic_ilem, ic_iltm, ic_mmle_t, ic_mmle_f, pu_add, pu_mul, pu_in, pu_ck, pu_let, pu_cl, pu_cpok, pu_inr, Option.bind_some, ite_true, ite_false, pu_dm, pu_dv, pu_sub, nt_dm, if_true, if_false]))
    rw [b1]
    ((try simp only [li_0, li_1, li_2, li_3, li_4, li_5, li_6, li_7, li_8, li_9, li_10, li_11, li_12, li_13, li_14, li_15, li_16, li_17, li_18, li_19, li_20, li_30, li_31, li_32, li_33, li_40, li_41, li_42, li_43, li_45, li_48, li_56, li_57, li_59, li_60, li_61, li_64, li_91, li_97, li_99, li_100, li_122, li_150, li_160, li_200, li_201, li_255, li_300, li_303, li_304, li_305, li_306, li_312, li_400, li_500, li_999, li_1003, li_3099, li_99999, li_100000, li_1000000, li_65, li_23, li_neg]); (try simp (disch := omega) only [ic_le_f, ic_le_t, ic_lt_f, ic_lt_t, ic_eq_f, ic_eq_t, ic_im, ic_mi, ic_mm_t, ic_mm_f, ic_mlt, ic_mle, ic_ilem, ic_iltm, ic_mmle_t, ic_mmle_f, pu_add, pu_mul, pu_in, pu_ck, pu_let, pu_cl, pu_cpok, pu_inr, Option.bind_some, ite_true, ite_false, pu_dm, pu_dv, pu_sub, nt_dm, if_true, if_false]))
    rw [h21, d1, Option.bind_some, lp_X6_film_43]
    exact e1
  · ((try simp only [f_X7_film, f_X7_in, f_X7_areWeeks, qa_bl1, li_0, li_1, li_2, li_3, li_4, li_5, li_6, li_7, li_8, li_9, li_10, li_11, li_12, li_13, li_14, li_15, li_16, li_17, li_18, li_19, li_20, li_30, li_31, li_32, li_33, li_40, li_41, li_42, li_43, li_45, li_48, li_56, li_57, li_59, li_60, li_61, li_64, li_91, li_97, li_99, li_100, li_122, li_150, li_160, li_200, li_201, li_255, li_300, li_303, li_304, li_305, li_306, li_312, li_400, li_500, li_999, li_1003, li_3099, li_99999, li_100000, li_1000000, li_65, li_23, li_neg]); (try simp (disch := omega) only [f_X7_film, f_X7_in, f_X7_areWeeks, qa_bl1, ic_le_f, ic_le_t, ic_lt_f, ic_lt_t, ic_eq_f, ic_eq_t, ic_im, ic_mi, ic_mm_t, ic_mm_f, ic_mlt, ic_mle, ic_ilem, ic_iltm, ic_mmle_t, ic_mmle_f, pu_add, pu_mul, pu_in, pu_ck, pu_let, pu_cl, pu_cpok, pu_inr, Option.bind_some, ite_true, ite_false, pu_dm, pu_dv, pu_sub, nt_dm, if_true, if_false]))
    rw [g1]
    ((try simp only [li_0, li_1, li_2, li_3, li_4, li_5, li_6, li_7, li_8, li_9, li_10, li_11, li_12, li_13, li_14, li_15, li_16, li_17, li_18, li_19, li_20, li_30, li_31, li_32, li_33, li_40, li_41, li_42, li_43, li_45, li_48, li_56, li_57, li_59, li_60, li_61, li_64, li_91, li_97, li_99, li_100, li_122, li_150, li_160, li_200, li_201, li_255, li_300, li_303, li_304, li_305, li_306, li_312, li_400, li_500, li_999, li_1003, li_3099, li_99999, li_100000, li_1000000, li_65, li_23, li_neg]); (try simp (disch := omega) only [ic_le_f, ic_le_t, ic_lt_f, ic_lt_t, ic_eq_f, ic_eq_t, ic_im, ic_mi, ic_mm_t, ic_mm_f, ic_mlt, ic_mle, ic_ilem, ic_iltm, ic_mmle_t, ic_mmle_f, pu_add, pu_mul, pu_in, pu_ck, pu_let, pu_cl, pu_cpok, pu_inr, Option.bind_some, ite_true, ite_false, pu_dm, pu_dv, pu_sub, nt_dm, if_true, if_false]))
    rw [st_n (show (36 : Nat) ≠ 48 by omega), y0, lp_X7_film_43]
    exact k1
  · refine Rel.sht hD ((f3.mo (by simp)).t2 f5 (by simp)) ((o36l.q (k := []) f3 (by decide)).tr o5 (by simp) (by simp [oL])) ?_ ?_
    · exact (g2.F2 f4 (by simp) (by simp) (by simp) (by simp) (by simp) (by simp)).F2 k3 (by simp) (by simp) (by simp) (by simp) (by simp) (by simp)
    · refine sh.one (s := s) (w := nI 1) (z := H.n) (by omega) (by omega) (Or.inr ⟨1, by omega, rfl⟩) ?_ ?_ ?_ ?_ (fun k hk => ?_)
      · rw [f5 33 (by decide), e3 33 (by decide), d2, b3 33 (by decide)]
      · rw [f5 34 (by decide), e3 34 (by decide), d3, b3 34 (by decide)]
      · rw [k3 48 (by decide), st_n (by omega), st_s, g5 48 (by decide), f3 48 (by decide)]
      · rw [k3 49 (by decide), st_s, st_n (by omega), g5 49 (by decide), f3 49 (by decide)]
      · rw [k2 k, f5 35 (by decide), e35 k]
        by_cases w : 40 * s ≤ k ∧ k < 40 * s + 40
        · rw [if_pos w, if_pos w]
        · rw [if_neg w, if_neg w, f4 50 (by decide), g5 50 (by decide), f3 50 (by decide)]
          exact sh.2 k hk
