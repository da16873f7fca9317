/-! PURE: told wear: wants, laws, weeks -/
theorem MH.setR2 {m : qaM} {H : HS} {k a b : Nat} (c : MH m (H.setR k a)) (hk : k < 4) : MH (qa_st m 41 k (nI b)) (H.setR k b) := by
  refine (c.setR (k := k) (v := b) hk).cg rfl rfl rfl (fun j _ => ?_) rfl rfl
  show (if j = k then b else H.R j) = (if j = k then b else if j = k then a else H.R j)
  by_cases q : j = k
  · rw [if_pos q, if_pos q]
  · rw [if_neg q, if_neg q, if_neg q]
theorem setR_self (H : HS) (k : Nat) : H.setR k (H.R k) = H := by
  have : (fun j => if j = k then H.R k else H.R j) = H.R := by
    funext j
    by_cases q : j = k
    · rw [if_pos q, q]
    · rw [if_neg q]
  show ((H.n, H.A, H.P, (fun j => if j = k then H.R k else H.R j), H.wk, H.lw) : HS) = H
  rw [this]
  rfl
theorem btF_c {fo : Nat → Nat} {k : Nat} {α : Type} {A B : α} (h : fo k ≤ 8) : (if plI (fo k) = nM 1 then A else B) = (if fo k = 0 then A else B) := by
  by_cases z : fo k = 0
  · rw [if_pos z, if_pos ((plI_z (by omega)).mpr z)]
  · rw [if_neg z, if_neg (fun y => z ((plI_z (by omega)).mp y))]
theorem qp_wants : qaP_wants Rel := by
  intro m a b d h
  obtain ⟨H, N, S, hD⟩ := h
  have ⟨c, r, v, hl, hw, t, _, _, sh, nt⟩ := hD
  rcases told1 hD a b with ⟨s, n, hs, hn, rfl, rfl, h34, e1, e2⟩ | ⟨y, hy, e1, e2⟩
  rotate_left
  · refine ⟨y, m, m, ?_, ?_, Rel.mk hD⟩
    · unfold f_X6_wants
      rw [e1]
      ((try simp only [hy, li_0, li_1, li_2, li_3, li_4, li_5, li_6, li_7, li_8, li_9, li_10, li_11, li_12, li_13, li_14, li_15, li_16, li_17, li_18, li_19, li_20, li_30, li_31, li_32, li_33, li_40, li_41, li_42, li_43, li_45, li_48, li_56, li_57, li_59, li_60, li_61, li_64, li_91, li_97, li_99, li_100, li_122, li_150, li_160, li_200, li_201, li_255, li_300, li_303, li_304, li_305, li_306, li_312, li_400, li_500, li_999, li_1003, li_3099, li_99999, li_100000, li_1000000, li_65, li_23, li_neg]); (try simp (disch := omega) only [hy, ic_le_f, ic_le_t, ic_lt_f, ic_lt_t, ic_eq_f, ic_eq_t, ic_im, ic_mi, ic_mm_t, ic_mm_f, ic_mlt, ic_mle, ic_ilem, ic_iltm, ic_mmle_t, ic_mmle_f, pu_add, pu_mul, pu_in, pu_ck, pu_let, pu_cl, pu_cpok, pu_inr, Option.bind_some, ite_true, ite_false, pu_dm, pu_dv, pu_sub, nt_dm, if_true, if_false]))
    · unfold f_X7_wants
      rw [e2]
      ((try simp only [hy, li_0, li_1, li_2, li_3, li_4, li_5, li_6, li_7, li_8, li_9, li_10, li_11, li_12, li_13, li_14, li_15, li_16, li_17, li_18, li_19, li_20, li_30, li_31, li_32, li_33, li_40, li_41, li_42, li_43, li_45, li_48, li_56, li_57, li_59, li_60, li_61, li_64, li_91, li_97, li_99, li_100, li_122, li_150, li_160, li_200, li_201, li_255, li_300, li_303, li_304, li_305, li_306, li_312, li_400, li_500, li_999, li_1003, li_3099, li_99999, li_100000, li_1000000, li_65, li_23, li_neg]); (try simp (disch := omega) only [hy, ic_le_f, ic_le_t, ic_lt_f, ic_lt_t, ic_eq_f, ic_eq_t, ic_im, ic_mi, ic_mm_t, ic_mm_f, ic_mlt, ic_mle, ic_ilem, ic_iltm, ic_mmle_t, ic_mmle_f, pu_add, pu_mul, pu_in, pu_ck, pu_let, pu_cl, pu_cpok, pu_inr, Option.bind_some, ite_true, ite_false, pu_dm, pu_dv, pu_sub, nt_dm, if_true, if_false]))
  rcases upTo 1 2 rfl (by omega) d with ⟨k, hk, rfl⟩ | hx
  rotate_left
  · have e3 := e2 m (qF.rf _ _)
    rcases hx with ⟨h1, h2, h3, h4, h5, h6⟩ | ⟨h1, h2, h3, h4, h5, h6⟩
    all_goals
      refine ⟨nM 7, m, m, ?_, ?_, Rel.mk hD⟩
      · ((try simp only [f_X6_wants, e1, h1, h2, h3, h4, h5, h6, li_0, li_1, li_2, li_3, li_4, li_5, li_6, li_7, li_8, li_9, li_10, li_11, li_12, li_13, li_14, li_15, li_16, li_17, li_18, li_19, li_20, li_30, li_31, li_32, li_33, li_40, li_41, li_42, li_43, li_45, li_48, li_56, li_57, li_59, li_60, li_61, li_64, li_91, li_97, li_99, li_100, li_122, li_150, li_160, li_200, li_201, li_255, li_300, li_303, li_304, li_305, li_306, li_312, li_400, li_500, li_999, li_1003, li_3099, li_99999, li_100000, li_1000000, li_65, li_23, li_neg]); (try simp (disch := omega) only [f_X6_wants, e1, h1, h2, h3, h4, h5, h6, ic_le_f, ic_le_t, ic_lt_f, ic_lt_t, ic_eq_f, ic_eq_t, ic_im, ic_mi, ic_mm_t, ic_mm_f, ic_mlt, ic_mle, ic_ilem, ic_iltm, ic_mmle_t, ic_mmle_f, pu_add, pu_mul, pu_in, pu_ck, pu_let, pu_cl, pu_cpok, pu_inr, Option.bind_some, ite_true, ite_false, pu_dm, pu_dv, pu_sub, nt_dm, if_true, if_false]))
      · ((try simp only [f_X7_wants, e3, f_X7_in, h1, h2, h3, h4, h5, h6, li_0, li_1, li_2, li_3, li_4, li_5, li_6, li_7, li_8, li_9, li_10, li_11, li_12, li_13, li_14, li_15, li_16, li_17, li_18, li_19, li_20, li_30, li_31, li_32, li_33, li_40, li_41, li_42, li_43, li_45, li_48, li_56, li_57, li_59, li_60, li_61, li_64, li_91, li_97, li_99, li_100, li_122, li_150, li_160, li_200, li_201, li_255, li_300, li_303, li_304, li_305, li_306, li_312, li_400, li_500, li_999, li_1003, li_3099, li_99999, li_100000, li_1000000, li_65, li_23, li_neg]); (try simp (disch := omega) only [f_X7_wants, e3, f_X7_in, h1, h2, h3, h4, h5, h6, ic_le_f, ic_le_t, ic_lt_f, ic_lt_t, ic_eq_f, ic_eq_t, ic_im, ic_mi, ic_mm_t, ic_mm_f, ic_mlt, ic_mle, ic_ilem, ic_iltm, ic_mmle_t, ic_mmle_f, pu_add, pu_mul, pu_in, pu_ck, pu_let, pu_cl, pu_cpok, pu_inr, Option.bind_some, ite_true, ite_false, pu_dm, pu_dv, pu_sub, nt_dm, if_true, if_false]))
  obtain ⟨E, hE⟩ : ∃ E : Nat, E = if k = 0 then 8 else 3 := ⟨_, rfl⟩
  have hE8 : E ≤ 8 := by
    rw [hE]
    split <;> omega
  have hEk : ∀ j, j ≤ E → j ≤ if k = 0 then 8 else if k = 3 then 2 else 3 := by
    intro j hj
    rw [hE] at hj
    by_cases z : k = 0
    · rw [if_pos z] at hj ⊢
      exact hj
    · rw [if_neg z] at hj
      rw [if_neg z, if_neg (by omega)]
      exact hj
  have hgr : qa_gr k = nI E := by
    have : k = 0 ∨ k = 1 := by omega
    rcases this with rfl | rfl
    · rw [hE]
      decide
    · rw [hE]
      decide
  obtain ⟨fo, hfo⟩ : ∃ fo : Nat → Nat, ∀ j, fo j = foR (fun i => m 35 (40 * s + i)) (thk S n (H.setR k j)).1.A H.n := ⟨_, fun _ => rfl⟩
  have hle : ∀ j, fo j ≤ 8 := fun j => by
    rw [hfo]
    exact Nat.le_trans (foR_le _ _ _) v.n8
  obtain ⟨m1, a1, a2⟩ := bitLoop (E := E + 1) fo (f := fun s' : qaM × Int32 × Int32 => b_X6_wants_34 s'.1 (nI s) (nI n) (nI k) s'.2.1 s'.2.2) (fun x => qF kL m x) (fun x => qF kL m x) (m := m) (by omega) (qF.rf _ _) (by
    intro j x acc hj hf
    obtain ⟨x2, g1, g2, g3⟩ := kthinksWith (what := k) (v := j) (n := n) (c.kL hf) v (t.2.2.2.2.1.kL hf) t.2.2.2.2.2.2 hl (by omega) (by omega) (hEk j (by omega)) hf
    have hv := thk_V (S := S) (n := n) (v.setR (hEk j (by omega)))
    have hk := kbit (s := s) (k := j) (fo := fo) (g := fun i => m 35 (40 * s + i)) g2 hv.1 hs (by rw [g3 34 (by decide), h34, hv.2.1]; rfl) (fun i _ => by rw [g3 35 (by decide)]) (by rw [hfo, hv.2.1]; rfl)
    refine ⟨x2, ?_, g3⟩
    show b_X6_wants_34 x (nI s) (nI n) (nI k) acc (nI j) = _
    unfold b_X6_wants_34
    ((try simp only [li_0, li_1, li_2, li_3, li_4, li_5, li_6, li_7, li_8, li_9, li_10, li_11, li_12, li_13, li_14, li_15, li_16, li_17, li_18, li_19, li_20, li_30, li_31, li_32, li_33, li_40, li_41, li_42, li_43, li_45, li_48, li_56, li_57, li_59, li_60, li_61, li_64, li_91, li_97, li_99, li_100, li_122, li_150, li_160, li_200, li_201, li_255, li_300, li_303, li_304, li_305, li_306, li_312, li_400, li_500, li_999, li_1003, li_3099, li_99999, li_100000, li_1000000, li_65, li_23, li_neg]); (try simp (disch := omega) only [ic_le_f, ic_le_t, ic_lt_f, ic_lt_t, ic_eq_f, ic_eq_t, ic_im, ic_mi, ic_mm_t, ic_mm_f, ic_mlt, ic_mle, ic_ilem, ic_iltm, ic_mmle_t, ic_mmle_f, pu_add, pu_mul, pu_in, pu_ck, pu_let, pu_cl, pu_cpok, pu_inr, Option.bind_some, ite_true, ite_false, pu_dm, pu_dv, pu_sub, nt_dm, if_true, if_false]))
    rw [hgr, g1]
    ((try simp only [li_0, li_1, li_2, li_3, li_4, li_5, li_6, li_7, li_8, li_9, li_10, li_11, li_12, li_13, li_14, li_15, li_16, li_17, li_18, li_19, li_20, li_30, li_31, li_32, li_33, li_40, li_41, li_42, li_43, li_45, li_48, li_56, li_57, li_59, li_60, li_61, li_64, li_91, li_97, li_99, li_100, li_122, li_150, li_160, li_200, li_201, li_255, li_300, li_303, li_304, li_305, li_306, li_312, li_400, li_500, li_999, li_1003, li_3099, li_99999, li_100000, li_1000000, li_65, li_23, li_neg]); (try simp (disch := omega) only [ic_le_f, ic_le_t, ic_lt_f, ic_lt_t, ic_eq_f, ic_eq_t, ic_im, ic_mi, ic_mm_t, ic_mm_f, ic_mlt, ic_mle, ic_ilem, ic_iltm, ic_mmle_t, ic_mmle_f, pu_add, pu_mul, pu_in, pu_ck, pu_let, pu_cl, pu_cpok, pu_inr, Option.bind_some, ite_true, ite_false, pu_dm, pu_dv, pu_sub, nt_dm, if_true, if_false]))
    rw [hk]
    ((try simp only [li_0, li_1, li_2, li_3, li_4, li_5, li_6, li_7, li_8, li_9, li_10, li_11, li_12, li_13, li_14, li_15, li_16, li_17, li_18, li_19, li_20, li_30, li_31, li_32, li_33, li_40, li_41, li_42, li_43, li_45, li_48, li_56, li_57, li_59, li_60, li_61, li_64, li_91, li_97, li_99, li_100, li_122, li_150, li_160, li_200, li_201, li_255, li_300, li_303, li_304, li_305, li_306, li_312, li_400, li_500, li_999, li_1003, li_3099, li_99999, li_100000, li_1000000, li_65, li_23, li_neg]); (try simp (disch := omega) only [ic_le_f, ic_le_t, ic_lt_f, ic_lt_t, ic_eq_f, ic_eq_t, ic_im, ic_mi, ic_mm_t, ic_mm_f, ic_mlt, ic_mle, ic_ilem, ic_iltm, ic_mmle_t, ic_mmle_f, pu_add, pu_mul, pu_in, pu_ck, pu_let, pu_cl, pu_cpok, pu_inr, Option.bind_some, ite_true, ite_false, pu_dm, pu_dv, pu_sub, nt_dm, if_true, if_false]))) (by
    intro x acc hf
    refine ⟨x, ?_, hf⟩
    show b_X6_wants_34 x (nI s) (nI n) (nI k) acc (nI (E + 1)) = _
    unfold b_X6_wants_34
    ((try simp only [li_0, li_1, li_2, li_3, li_4, li_5, li_6, li_7, li_8, li_9, li_10, li_11, li_12, li_13, li_14, li_15, li_16, li_17, li_18, li_19, li_20, li_30, li_31, li_32, li_33, li_40, li_41, li_42, li_43, li_45, li_48, li_56, li_57, li_59, li_60, li_61, li_64, li_91, li_97, li_99, li_100, li_122, li_150, li_160, li_200, li_201, li_255, li_300, li_303, li_304, li_305, li_306, li_312, li_400, li_500, li_999, li_1003, li_3099, li_99999, li_100000, li_1000000, li_65, li_23, li_neg]); (try simp (disch := omega) only [ic_le_f, ic_le_t, ic_lt_f, ic_lt_t, ic_eq_f, ic_eq_t, ic_im, ic_mi, ic_mm_t, ic_mm_f, ic_mlt, ic_mle, ic_ilem, ic_iltm, ic_mmle_t, ic_mmle_f, pu_add, pu_mul, pu_in, pu_ck, pu_let, pu_cl, pu_cpok, pu_inr, Option.bind_some, ite_true, ite_false, pu_dm, pu_dv, pu_sub, nt_dm, if_true, if_false]))
    rw [hgr]
    ((try simp only [li_0, li_1, li_2, li_3, li_4, li_5, li_6, li_7, li_8, li_9, li_10, li_11, li_12, li_13, li_14, li_15, li_16, li_17, li_18, li_19, li_20, li_30, li_31, li_32, li_33, li_40, li_41, li_42, li_43, li_45, li_48, li_56, li_57, li_59, li_60, li_61, li_64, li_91, li_97, li_99, li_100, li_122, li_150, li_160, li_200, li_201, li_255, li_300, li_303, li_304, li_305, li_306, li_312, li_400, li_500, li_999, li_1003, li_3099, li_99999, li_100000, li_1000000, li_65, li_23, li_neg]); (try simp (disch := omega) only [ic_le_f, ic_le_t, ic_lt_f, ic_lt_t, ic_eq_f, ic_eq_t, ic_im, ic_mi, ic_mm_t, ic_mm_f, ic_mlt, ic_mle, ic_ilem, ic_iltm, ic_mmle_t, ic_mmle_f, pu_add, pu_mul, pu_in, pu_ck, pu_let, pu_cl, pu_cpok, pu_inr, Option.bind_some, ite_true, ite_false, pu_dm, pu_dv, pu_sub, nt_dm, if_true, if_false])))
  have r1m : MH m1 H := r.cl a2 (by decide)
  have tr := t.2.2.2.2.2.1.F a2 (by decide) (by decide)
  have e4 : m1 41 k = nI (H.R k) := r1m.2.2.1 k (by omega)
  have h42 : ∀ x acc j, b_X7_wants_42 x (nI s) (nI n) (nI k) (nI (H.R k)) acc j = b_X7_wants_54 x (nI s) (nI n) (nI k) (nI (H.R k)) acc j j (nI E) := by
    intro x acc j
    have : k = 0 ∨ k = 1 := by omega
    unfold b_X7_wants_42
    rcases this with rfl | rfl
    · rw [hE]
      ((try simp only [li_0, li_1, li_2, li_3, li_4, li_5, li_6, li_7, li_8, li_9, li_10, li_11, li_12, li_13, li_14, li_15, li_16, li_17, li_18, li_19, li_20, li_30, li_31, li_32, li_33, li_40, li_41, li_42, li_43, li_45, li_48, li_56, li_57, li_59, li_60, li_61, li_64, li_91, li_97, li_99, li_100, li_122, li_150, li_160, li_200, li_201, li_255, li_300, li_303, li_304, li_305, li_306, li_312, li_400, li_500, li_999, li_1003, li_3099, li_99999, li_100000, li_1000000, li_65, li_23, li_neg]); (try simp (disch := omega) only [ic_le_f, ic_le_t, ic_lt_f, ic_lt_t, ic_eq_f, ic_eq_t, ic_im, ic_mi, ic_mm_t, ic_mm_f, ic_mlt, ic_mle, ic_ilem, ic_iltm, ic_mmle_t, ic_mmle_f, pu_add, pu_mul, pu_in, pu_ck, pu_let, pu_cl, pu_cpok, pu_inr, Option.bind_some, ite_true, ite_false, pu_dm, pu_dv, pu_sub, nt_dm, if_true, if_false]))
    · rw [hE]
      ((try simp only [li_0, li_1, li_2, li_3, li_4, li_5, li_6, li_7, li_8, li_9, li_10, li_11, li_12, li_13, li_14, li_15, li_16, li_17, li_18, li_19, li_20, li_30, li_31, li_32, li_33, li_40, li_41, li_42, li_43, li_45, li_48, li_56, li_57, li_59, li_60, li_61, li_64, li_91, li_97, li_99, li_100, li_122, li_150, li_160, li_200, li_201, li_255, li_300, li_303, li_304, li_305, li_306, li_312, li_400, li_500, li_999, li_1003, li_3099, li_99999, li_100000, li_1000000, li_65, li_23, li_neg]); (try simp (disch := omega) only [ic_le_f, ic_le_t, ic_lt_f, ic_lt_t, ic_eq_f, ic_eq_t, ic_im, ic_mi, ic_mm_t, ic_mm_f, ic_mlt, ic_mle, ic_ilem, ic_iltm, ic_mmle_t, ic_mmle_f, pu_add, pu_mul, pu_in, pu_ck, pu_let, pu_cl, pu_cpok, pu_inr, Option.bind_some, ite_true, ite_false, pu_dm, pu_dv, pu_sub, nt_dm, if_true, if_false]))
      rfl
  obtain ⟨m2, b1, b2, b3, b4⟩ := bitLoop (E := E + 1) fo (f := fun s' : qaM × Int32 × Int32 => b_X7_wants_42 s'.1 (nI s) (nI n) (nI k) (nI (H.R k)) s'.2.1 s'.2.2) (fun x => (∃ a, MH x (H.setR k a)) ∧ qF rL m1 x ∧ o36l oL m1 x) (fun x => MH x H ∧ qF rL m1 x ∧ o36l oL m1 x) (m := m1) (by omega) ⟨⟨H.R k, by rw [setR_self]; exact r1m⟩, qF.rf _ _, o36l.rf _ _⟩ (by
    rintro j x acc hj ⟨⟨u1, hm1⟩, hf, ho⟩
    have f1 : qF [41] x (qa_st x 41 k (nI j)) := qF.st _ _ _ _
    have f1r := hf.t2 f1 (by simp [rL])
    obtain ⟨x2, g1, g2, g3, g4⟩ := r7unlike (s := s) (n := n) (g := fun i => m 35 (40 * s + i)) (hm1.setR2 (b := j) (by omega)) (v.setR (hEk j (by omega))) ((tr.rL hf).F f1 (by simp) (by simp)) t.2.2.2.2.2.2 hl (by omega) f1r (ho.tr (o36l.q (k := []) f1 (by simp)) (fun _ z => z) (by simp)) hs (fun i hi => by rw [f1r 50 (by decide)]; exact sh.g hs a2 (by decide) i hi)
    have hn2 : (H.setR k j).n = H.n := rfl
    rw [hn2, ← hfo] at g1
    refine ⟨x2, ?_, ⟨_, g2⟩, g3, g4⟩
    show b_X7_wants_42 x (nI s) (nI n) (nI k) (nI (H.R k)) acc (nI j) = _
    rw [h42]
    unfold b_X7_wants_54
    ((try simp only [li_0, li_1, li_2, li_3, li_4, li_5, li_6, li_7, li_8, li_9, li_10, li_11, li_12, li_13, li_14, li_15, li_16, li_17, li_18, li_19, li_20, li_30, li_31, li_32, li_33, li_40, li_41, li_42, li_43, li_45, li_48, li_56, li_57, li_59, li_60, li_61, li_64, li_91, li_97, li_99, li_100, li_122, li_150, li_160, li_200, li_201, li_255, li_300, li_303, li_304, li_305, li_306, li_312, li_400, li_500, li_999, li_1003, li_3099, li_99999, li_100000, li_1000000, li_65, li_23, li_neg]); (try simp (disch := omega) only [ic_le_f, ic_le_t, ic_lt_f, ic_lt_t, ic_eq_f, ic_eq_t, ic_im, ic_mi, ic_mm_t, ic_mm_f, ic_mlt, ic_mle, ic_ilem, ic_iltm, ic_mmle_t, ic_mmle_f, pu_add, pu_mul, pu_in, pu_ck, pu_let, pu_cl, pu_cpok, pu_inr, Option.bind_some, ite_true, ite_false, pu_dm, pu_dv, pu_sub, nt_dm, if_true, if_false]))
    rw [g1]
    unfold btF
    rw [Option.bind_some]
    show (if plI (fo j) = nM 1 then _ else _) = _
    rw [btF_c (hle j)]
    by_cases z : fo j = 0
    · rw [if_pos z, if_pos z]
      ((try simp only [b_X7_wants_85, li_0, li_1, li_2, li_3, li_4, li_5, li_6, li_7, li_8, li_9, li_10, li_11, li_12, li_13, li_14, li_15, li_16, li_17, li_18, li_19, li_20, li_30, li_31, li_32, li_33, li_40, li_41, li_42, li_43, li_45, li_48, li_56, li_57, li_59, li_60, li_61, li_64, li_91, li_97, li_99, li_100, li_122, li_150, li_160, li_200, li_201, li_255, li_300, li_303, li_304, li_305, li_306, li_312, li_400, li_500, li_999, li_1003, li_3099, li_99999, li_100000, li_1000000, li_65, li_23, li_neg]); (try simp (disch := omega) only [b_X7_wants_85, ic_le_f, ic_le_t, ic_lt_f, ic_lt_t, ic_eq_f, ic_eq_t, ic_im, ic_mi, ic_mm_t, ic_mm_f, ic_mlt, ic_mle, ic_ilem, ic_iltm, ic_mmle_t, ic_mmle_f, pu_add, pu_mul, pu_in, pu_ck, pu_let, pu_cl, pu_cpok, pu_inr, Option.bind_some, ite_true, ite_false, pu_dm, pu_dv, pu_sub, nt_dm, if_true, if_false]))
    · rw [if_neg z, if_neg z]
      ((try simp only [b_X7_wants_85, li_0, li_1, li_2, li_3, li_4, li_5, li_6, li_7, li_8, li_9, li_10, li_11, li_12, li_13, li_14, li_15, li_16, li_17, li_18, li_19, li_20, li_30, li_31, li_32, li_33, li_40, li_41, li_42, li_43, li_45, li_48, li_56, li_57, li_59, li_60, li_61, li_64, li_91, li_97, li_99, li_100, li_122, li_150, li_160, li_200, li_201, li_255, li_300, li_303, li_304, li_305, li_306, li_312, li_400, li_500, li_999, li_1003, li_3099, li_99999, li_100000, li_1000000, li_65, li_23, li_neg]); (try simp (disch := omega) only [b_X7_wants_85, ic_le_f, ic_le_t, ic_lt_f, ic_lt_t, ic_eq_f, ic_eq_t, ic_im, ic_mi, ic_mm_t, ic_mm_f, ic_mlt, ic_mle, ic_ilem, ic_iltm, ic_mmle_t, ic_mmle_f, pu_add, pu_mul, pu_in, pu_ck, pu_let, pu_cl, pu_cpok, pu_inr, Option.bind_some, ite_true, ite_false, pu_dm, pu_dv, pu_sub, nt_dm, if_true, if_false]))) (by
    rintro x acc ⟨⟨u1, hm1⟩, hf, ho⟩
    have := hm1.setR2 (b := H.R k) (by omega)
    rw [setR_self] at this
    refine ⟨qa_st x 41 k (nI (H.R k)), ?_, this, hf.stl (by simp [rL]), ho.tr (o36l.q (k := []) (qF.st _ _ _ _) (by simp)) (fun _ z => z) (by simp)⟩
    show b_X7_wants_42 x (nI s) (nI n) (nI k) (nI (H.R k)) acc (nI (E + 1)) = _
    rw [h42]
    unfold b_X7_wants_54
    ((try simp only [b_X7_wants_94, li_0, li_1, li_2, li_3, li_4, li_5, li_6, li_7, li_8, li_9, li_10, li_11, li_12, li_13, li_14, li_15, li_16, li_17, li_18, li_19, li_20, li_30, li_31, li_32, li_33, li_40, li_41, li_42, li_43, li_45, li_48, li_56, li_57, li_59, li_60, li_61, li_64, li_91, li_97, li_99, li_100, li_122, li_150, li_160, li_200, li_201, li_255, li_300, li_303, li_304, li_305, li_306, li_312, li_400, li_500, li_999, li_1003, li_3099, li_99999, li_100000, li_1000000, li_65, li_23, li_neg]); (try simp (disch := omega) only [b_X7_wants_94, ic_le_f, ic_le_t, ic_lt_f, ic_lt_t, ic_eq_f, ic_eq_t, ic_im, ic_mi, ic_mm_t, ic_mm_f, ic_mlt, ic_mle, ic_ilem, ic_iltm, ic_mmle_t, ic_mmle_f, pu_add, pu_mul, pu_in, pu_ck, pu_let, pu_cl, pu_cpok, pu_inr, Option.bind_some, ite_true, ite_false, pu_dm, pu_dv, pu_sub, nt_dm, if_true, if_false])))
  refine ⟨orF fo (E + 1), m1, m2, ?_, ?_, Rel.thk hD a2 b3 b4 b2⟩
  · unfold f_X6_wants
    rw [e1]
    ((try simp only [li_0, li_1, li_2, li_3, li_4, li_5, li_6, li_7, li_8, li_9, li_10, li_11, li_12, li_13, li_14, li_15, li_16, li_17, li_18, li_19, li_20, li_30, li_31, li_32, li_33, li_40, li_41, li_42, li_43, li_45, li_48, li_56, li_57, li_59, li_60, li_61, li_64, li_91, li_97, li_99, li_100, li_122, li_150, li_160, li_200, li_201, li_255, li_300, li_303, li_304, li_305, li_306, li_312, li_400, li_500, li_999, li_1003, li_3099, li_99999, li_100000, li_1000000, li_65, li_23, li_neg]); (try simp (disch := omega) only [ic_le_f, ic_le_t, ic_lt_f, ic_lt_t, ic_eq_f, ic_eq_t, ic_im, ic_mi, ic_mm_t, ic_mm_f, ic_mlt, ic_mle, ic_ilem, ic_iltm, ic_mmle_t, ic_mmle_f, pu_add, pu_mul, pu_in, pu_ck, pu_let, pu_cl, pu_cpok, pu_inr, Option.bind_some, ite_true, ite_false, pu_dm, pu_dv, pu_sub, nt_dm, if_true, if_false]))
    rw [lp_X6_wants_34, a1]
  · unfold f_X7_wants
    rw [e2 _ a2]
    ((try simp only [f_X7_in, li_0, li_1, li_2, li_3, li_4, li_5, li_6, li_7, li_8, li_9, li_10, li_11, li_12, li_13, li_14, li_15, li_16, li_17, li_18, li_19, li_20, li_30, li_31, li_32, li_33, li_40, li_41, li_42, li_43, li_45, li_48, li_56, li_57, li_59, li_60, li_61, li_64, li_91, li_97, li_99, li_100, li_122, li_150, li_160, li_200, li_201, li_255, li_300, li_303, li_304, li_305, li_306, li_312, li_400, li_500, li_999, li_1003, li_3099, li_99999, li_100000, li_1000000, li_65, li_23, li_neg]); (try simp (disch := omega) only [f_X7_in, ic_le_f, ic_le_t, ic_lt_f, ic_lt_t, ic_eq_f, ic_eq_t, ic_im, ic_mi, ic_mm_t, ic_mm_f, ic_mlt, ic_mle, ic_ilem, ic_iltm, ic_mmle_t, ic_mmle_f, pu_add, pu_mul, pu_in, pu_ck, pu_let, pu_cl, pu_cpok, pu_inr, Option.bind_some, ite_true, ite_false, pu_dm, pu_dv, pu_sub, nt_dm, if_true, if_false]))
    rw [e4, lp_X7_wants_42, b1]
theorem HV.setL {H : HS} (h : HV H) {l : Nat} (hl : l < 6) : HV (H.setL l) := ⟨h.1, h.2.1, h.2.2.1, h.2.2.2.1, h.2.2.2.2.1, h.2.2.2.2.2.1, h.rs.1, h.rs.2.1, h.rs.2.2.1, h.rs.2.2.2.1, hl⟩
theorem CY.setL {m : qaM} {h l : Nat} {H : HS} (c : CY m h (ty0 H)) : CY (qa_st m h 4 (nI l)) h (ty0 (H.setL l)) := by
  have f := qF.st m h 4 (nI l)
  obtain ⟨c1, t5, t6, t7, t8⟩ := c
  refine ⟨⟨c1.1.F f (by simp <;> omega) (by simp <;> omega), c1.2.1.F f (by simp <;> omega) (by simp <;> omega), ?_, ?_, ?_⟩, ?_, ?_, ?_, ?_⟩
  · rw [f (h + 5) (by simp)]
    exact c1.2.2.1
  · rw [st_s, up_n (by omega)]
    exact c1.2.2.2.1
  · rw [st_s, up_s]
    rfl
  · rw [st_s, up_n (by omega)]
    exact t5
  · rw [st_s, up_n (by omega)]
    exact t6
  · rw [st_s, up_n (by omega)]
    exact t7
  · rw [st_s, up_n (by omega)]
    exact t8
theorem MH.setL {m : qaM} {l a : Nat} {H : HS} (c : MH m (H.setL a)) : MH (qa_st m 36 13 (nI l)) (H.setL l) := by
  have f := qF.st m 36 13 (nI l)
  have e : ∀ k : Nat, k ≠ 13 → qa_st m 36 13 (nI l) 36 k = m 36 k := fun k hk => by rw [st_s, up_n hk]
  refine ⟨c.1.F f (by simp) (by simp) (by simp), ?_, ?_, ?_, ?_, ?_⟩
  · have h2 := c.2.1
    unfold RP at h2 ⊢
    rw [e 5 (by omega), f 40 (by simp)]
    exact h2
  · rw [f 41 (by simp)]
    exact c.2.2.1
  · rw [e 0 (by omega)]
    exact c.2.2.2.1
  · rw [e 7 (by omega)]
    exact c.2.2.2.2.1
  · rw [st_s, up_s]
    rfl
theorem qp_laws : qaP_laws Rel := by
  intro m a b h
  obtain ⟨H, N, S, hD⟩ := h
  have ⟨c, r, v, hl, hw, t, _, _, sh, nt⟩ := hD
  rcases told1 hD a b with ⟨s, n, hs, hn, rfl, rfl, h34, e1, e2⟩ | ⟨y, hy, e1, e2⟩
  rotate_left
  · refine ⟨y, m, m, ?_, ?_, Rel.mk hD⟩
    · unfold f_X6_laws
      rw [e1]
      ((try simp only [hy, li_0, li_1, li_2, li_3, li_4, li_5, li_6, li_7, li_8, li_9, li_10, li_11, li_12, li_13, li_14, li_15, li_16, li_17, li_18, li_19, li_20, li_30, li_31, li_32, li_33, li_40, li_41, li_42, li_43, li_45, li_48, li_56, li_57, li_59, li_60, li_61, li_64, li_91, li_97, li_99, li_100, li_122, li_150, li_160, li_200, li_201, li_255, li_300, li_303, li_304, li_305, li_306, li_312, li_400, li_500, li_999, li_1003, li_3099, li_99999, li_100000, li_1000000, li_65, li_23, li_neg]); (try simp (disch := omega) only [hy, ic_le_f, ic_le_t, ic_lt_f, ic_lt_t, ic_eq_f, ic_eq_t, ic_im, ic_mi, ic_mm_t, ic_mm_f, ic_mlt, ic_mle, ic_ilem, ic_iltm, ic_mmle_t, ic_mmle_f, pu_add, pu_mul, pu_in, pu_ck, pu_let, pu_cl, pu_cpok, pu_inr, Option.bind_some, ite_true, ite_false, pu_dm, pu_dv, pu_sub, nt_dm, if_true, if_false]))
    · unfold f_X7_laws
      rw [e2]
      ((try simp only [hy, li_0, li_1, li_2, li_3, li_4, li_5, li_6, li_7, li_8, li_9, li_10, li_11, li_12, li_13, li_14, li_15, li_16, li_17, li_18, li_19, li_20, li_30, li_31, li_32, li_33, li_40, li_41, li_42, li_43, li_45, li_48, li_56, li_57, li_59, li_60, li_61, li_64, li_91, li_97, li_99, li_100, li_122, li_150, li_160, li_200, li_201, li_255, li_300, li_303, li_304, li_305, li_306, li_312, li_400, li_500, li_999, li_1003, li_3099, li_99999, li_100000, li_1000000, li_65, li_23, li_neg]); (try simp (disch := omega) only [hy, ic_le_f, ic_le_t, ic_lt_f, ic_lt_t, ic_eq_f, ic_eq_t, ic_im, ic_mi, ic_mm_t, ic_mm_f, ic_mlt, ic_mle, ic_ilem, ic_iltm, ic_mmle_t, ic_mmle_f, pu_add, pu_mul, pu_in, pu_ck, pu_let, pu_cl, pu_cpok, pu_inr, Option.bind_some, ite_true, ite_false, pu_dm, pu_dv, pu_sub, nt_dm, if_true, if_false]))
  have hN6 := t.2.2.2.1
  obtain ⟨fo, hfo⟩ : ∃ fo : Nat → Nat, ∀ j, fo j = foR (fun i => m 35 (40 * s + i)) (thk S n (H.setL j)).1.A H.n := ⟨_, fun _ => rfl⟩
  have hle : ∀ j, fo j ≤ 8 := fun j => by
    rw [hfo]
    exact Nat.le_trans (foR_le _ _ _) v.n8
  obtain ⟨m1, a1, a2⟩ := bitLoop (E := N) fo (f := fun s' : qaM × Int32 × Int32 => b_X6_laws_19 s'.1 (nI s) (nI n) s'.2.1 s'.2.2) (fun x => qF kL m x) (fun x => qF kL m x) (m := m) (by omega) (qF.rf _ _) (by
    intro j x acc hj hf
    obtain ⟨x1, d1, d2, d3⟩ := kbeg (c.kL hf) hf
    have f4 : qF kL m (qa_st x1 20 4 (nI j)) := d3.stl (by simp [kL])
    obtain ⟨x2, g1, g2, g3⟩ := kthk (n := n) (d2.setL (l := j)) (v.setL (by omega)) (t.2.2.2.2.1.kL f4) t.2.2.2.2.2.2 hj (by omega) f4
    have hv := thk_V (S := S) (n := n) (v.setL (l := j) (by omega))
    have hk := kbit (s := s) (k := j) (fo := fo) (g := fun i => m 35 (40 * s + i)) g2 hv.1 hs (by rw [g3 34 (by decide), h34, hv.2.1]; rfl) (fun i _ => by rw [g3 35 (by decide)]) (by rw [hfo, hv.2.1]; rfl)
    refine ⟨x2, ?_, g3⟩
    show b_X6_laws_19 x (nI s) (nI n) acc (nI j) = _
    unfold b_X6_laws_19
    rw [hf 1 (by decide), t.1, d1]
    ((try simp only [li_0, li_1, li_2, li_3, li_4, li_5, li_6, li_7, li_8, li_9, li_10, li_11, li_12, li_13, li_14, li_15, li_16, li_17, li_18, li_19, li_20, li_30, li_31, li_32, li_33, li_40, li_41, li_42, li_43, li_45, li_48, li_56, li_57, li_59, li_60, li_61, li_64, li_91, li_97, li_99, li_100, li_122, li_150, li_160, li_200, li_201, li_255, li_300, li_303, li_304, li_305, li_306, li_312, li_400, li_500, li_999, li_1003, li_3099, li_99999, li_100000, li_1000000, li_65, li_23, li_neg]); (try simp (disch := omega) only [ic_le_f, ic_le_t, ic_lt_f, ic_lt_t, ic_eq_f, ic_eq_t, ic_im, ic_mi, ic_mm_t, ic_mm_f, ic_mlt, ic_mle, ic_ilem, ic_iltm, ic_mmle_t, ic_mmle_f, pu_add, pu_mul, pu_in, pu_ck, pu_let, pu_cl, pu_cpok, pu_inr, Option.bind_some, ite_true, ite_false, pu_dm, pu_dv, pu_sub, nt_dm, if_true, if_false]))
    rw [g1]
    ((try simp only [li_0, li_1, li_2, li_3, li_4, li_5, li_6, li_7, li_8, li_9, li_10, li_11, li_12, li_13, li_14, li_15, li_16, li_17, li_18, li_19, li_20, li_30, li_31, li_32, li_33, li_40, li_41, li_42, li_43, li_45, li_48, li_56, li_57, li_59, li_60, li_61, li_64, li_91, li_97, li_99, li_100, li_122, li_150, li_160, li_200, li_201, li_255, li_300, li_303, li_304, li_305, li_306, li_312, li_400, li_500, li_999, li_1003, li_3099, li_99999, li_100000, li_1000000, li_65, li_23, li_neg]); (try simp (disch := omega) only [ic_le_f, ic_le_t, ic_lt_f, ic_lt_t, ic_eq_f, ic_eq_t, ic_im, ic_mi, ic_mm_t, ic_mm_f, ic_mlt, ic_mle, ic_ilem, ic_iltm, ic_mmle_t, ic_mmle_f, pu_add, pu_mul, pu_in, pu_ck, pu_let, pu_cl, pu_cpok, pu_inr, Option.bind_some, ite_true, ite_false, pu_dm, pu_dv, pu_sub, nt_dm, if_true, if_false]))
    rw [hk]
    ((try simp only [li_0, li_1, li_2, li_3, li_4, li_5, li_6, li_7, li_8, li_9, li_10, li_11, li_12, li_13, li_14, li_15, li_16, li_17, li_18, li_19, li_20, li_30, li_31, li_32, li_33, li_40, li_41, li_42, li_43, li_45, li_48, li_56, li_57, li_59, li_60, li_61, li_64, li_91, li_97, li_99, li_100, li_122, li_150, li_160, li_200, li_201, li_255, li_300, li_303, li_304, li_305, li_306, li_312, li_400, li_500, li_999, li_1003, li_3099, li_99999, li_100000, li_1000000, li_65, li_23, li_neg]); (try simp (disch := omega) only [ic_le_f, ic_le_t, ic_lt_f, ic_lt_t, ic_eq_f, ic_eq_t, ic_im, ic_mi, ic_mm_t, ic_mm_f, ic_mlt, ic_mle, ic_ilem, ic_iltm, ic_mmle_t, ic_mmle_f, pu_add, pu_mul, pu_in, pu_ck, pu_let, pu_cl, pu_cpok, pu_inr, Option.bind_some, ite_true, ite_false, pu_dm, pu_dv, pu_sub, nt_dm, if_true, if_false]))) (by
    intro x acc hf
    refine ⟨x, ?_, hf⟩
    show b_X6_laws_19 x (nI s) (nI n) acc (nI N) = _
    unfold b_X6_laws_19
    rw [hf 1 (by decide), t.1]
    ((try simp only [li_0, li_1, li_2, li_3, li_4, li_5, li_6, li_7, li_8, li_9, li_10, li_11, li_12, li_13, li_14, li_15, li_16, li_17, li_18, li_19, li_20, li_30, li_31, li_32, li_33, li_40, li_41, li_42, li_43, li_45, li_48, li_56, li_57, li_59, li_60, li_61, li_64, li_91, li_97, li_99, li_100, li_122, li_150, li_160, li_200, li_201, li_255, li_300, li_303, li_304, li_305, li_306, li_312, li_400, li_500, li_999, li_1003, li_3099, li_99999, li_100000, li_1000000, li_65, li_23, li_neg]); (try simp (disch := omega) only [ic_le_f, ic_le_t, ic_lt_f, ic_lt_t, ic_eq_f, ic_eq_t, ic_im, ic_mi, ic_mm_t, ic_mm_f, ic_mlt, ic_mle, ic_ilem, ic_iltm, ic_mmle_t, ic_mmle_f, pu_add, pu_mul, pu_in, pu_ck, pu_let, pu_cl, pu_cpok, pu_inr, Option.bind_some, ite_true, ite_false, pu_dm, pu_dv, pu_sub, nt_dm, if_true, if_false])))
  have r1m : MH m1 H := r.cl a2 (by decide)
  have tr := t.2.2.2.2.2.1.F a2 (by decide) (by decide)
  have e4 : m1 36 13 = nI H.lw := r1m.2.2.2.2.2
  have e12 : m1 36 12 = nI N := by
    rw [a2 36 (by decide)]
    exact t.2.1
  obtain ⟨m2, b1, b2, b3, b4⟩ := bitLoop (E := N) fo (f := fun s' : qaM × Int32 × Int32 => b_X7_laws_25 s'.1 (nI s) (nI n) (nI H.lw) s'.2.1 s'.2.2) (fun x => (∃ a, MH x (H.setL a)) ∧ qF rL m1 x ∧ o36l (13 :: oL) m1 x) (fun x => MH x H ∧ qF rL m1 x ∧ o36l (13 :: oL) m1 x) (m := m1) (by omega) ⟨⟨H.lw, r1m⟩, qF.rf _ _, o36l.rf _ _⟩ (by
    rintro j x acc hj ⟨⟨u1, hm1⟩, hf, ho⟩
    have f1 : qF [36] x (qa_st x 36 13 (nI j)) := qF.st _ _ _ _
    have f1r := hf.t2 f1 (by simp [rL])
    obtain ⟨x2, g1, g2, g3, g4⟩ := r7unlike (m0 := qa_st x 36 13 (nI j)) (s := s) (n := n) (g := fun i => m 35 (40 * s + i)) (hm1.setL (l := j)) (v.setL (by omega)) ((tr.rL hf).F f1 (by simp) (by simp)) t.2.2.2.2.2.2 hj (by omega) (qF.rf _ _) (o36l.rf _ _) hs (fun i hi => by rw [f1r 50 (by decide)]; exact sh.g hs a2 (by decide) i hi)
    have hn2 : (H.setL j).n = H.n := rfl
    rw [hn2, ← hfo] at g1
    refine ⟨x2, ?_, ⟨_, g2⟩, f1r.t2 g3 (fun _ z => z), (ho.tr (o36l.st _ _ _) (fun _ z => z) (by simp)).tr g4 (fun _ z => z) (fun _ z => List.mem_cons_of_mem _ z)⟩
    show b_X7_laws_25 x (nI s) (nI n) (nI H.lw) acc (nI j) = _
    unfold b_X7_laws_25
    rw [ho 12 (by decide), e12]
    ((try simp only [li_0, li_1, li_2, li_3, li_4, li_5, li_6, li_7, li_8, li_9, li_10, li_11, li_12, li_13, li_14, li_15, li_16, li_17, li_18, li_19, li_20, li_30, li_31, li_32, li_33, li_40, li_41, li_42, li_43, li_45, li_48, li_56, li_57, li_59, li_60, li_61, li_64, li_91, li_97, li_99, li_100, li_122, li_150, li_160, li_200, li_201, li_255, li_300, li_303, li_304, li_305, li_306, li_312, li_400, li_500, li_999, li_1003, li_3099, li_99999, li_100000, li_1000000, li_65, li_23, li_neg]); (try simp (disch := omega) only [ic_le_f, ic_le_t, ic_lt_f, ic_lt_t, ic_eq_f, ic_eq_t, ic_im, ic_mi, ic_mm_t, ic_mm_f, ic_mlt, ic_mle, ic_ilem, ic_iltm, ic_mmle_t, ic_mmle_f, pu_add, pu_mul, pu_in, pu_ck, pu_let, pu_cl, pu_cpok, pu_inr, Option.bind_some, ite_true, ite_false, pu_dm, pu_dv, pu_sub, nt_dm, if_true, if_false]))
    rw [g1]
    unfold btF
    rw [Option.bind_some]
    show (if plI (fo j) = nM 1 then _ else _) = _
    rw [btF_c (hle j)]
    by_cases z : fo j = 0
    · rw [if_pos z, if_pos z]
      ((try simp only [b_X7_laws_60, li_0, li_1, li_2, li_3, li_4, li_5, li_6, li_7, li_8, li_9, li_10, li_11, li_12, li_13, li_14, li_15, li_16, li_17, li_18, li_19, li_20, li_30, li_31, li_32, li_33, li_40, li_41, li_42, li_43, li_45, li_48, li_56, li_57, li_59, li_60, li_61, li_64, li_91, li_97, li_99, li_100, li_122, li_150, li_160, li_200, li_201, li_255, li_300, li_303, li_304, li_305, li_306, li_312, li_400, li_500, li_999, li_1003, li_3099, li_99999, li_100000, li_1000000, li_65, li_23, li_neg]); (try simp (disch := omega) only [b_X7_laws_60, ic_le_f, ic_le_t, ic_lt_f, ic_lt_t, ic_eq_f, ic_eq_t, ic_im, ic_mi, ic_mm_t, ic_mm_f, ic_mlt, ic_mle, ic_ilem, ic_iltm, ic_mmle_t, ic_mmle_f, pu_add, pu_mul, pu_in, pu_ck, pu_let, pu_cl, pu_cpok, pu_inr, Option.bind_some, ite_true, ite_false, pu_dm, pu_dv, pu_sub, nt_dm, if_true, if_false]))
    · rw [if_neg z, if_neg z]
      ((try simp only [b_X7_laws_60, li_0, li_1, li_2, li_3, li_4, li_5, li_6, li_7, li_8, li_9, li_10, li_11, li_12, li_13, li_14, li_15, li_16, li_17, li_18, li_19, li_20, li_30, li_31, li_32, li_33, li_40, li_41, li_42, li_43, li_45, li_48, li_56, li_57, li_59, li_60, li_61, li_64, li_91, li_97, li_99, li_100, li_122, li_150, li_160, li_200, li_201, li_255, li_300, li_303, li_304, li_305, li_306, li_312, li_400, li_500, li_999, li_1003, li_3099, li_99999, li_100000, li_1000000, li_65, li_23, li_neg]); (try simp (disch := omega) only [b_X7_laws_60, ic_le_f, ic_le_t, ic_lt_f, ic_lt_t, ic_eq_f, ic_eq_t, ic_im, ic_mi, ic_mm_t, ic_mm_f, ic_mlt, ic_mle, ic_ilem, ic_iltm, ic_mmle_t, ic_mmle_f, pu_add, pu_mul, pu_in, pu_ck, pu_let, pu_cl, pu_cpok, pu_inr, Option.bind_some, ite_true, ite_false, pu_dm, pu_dv, pu_sub, nt_dm, if_true, if_false]))) (by
    rintro x acc ⟨⟨u1, hm1⟩, hf, ho⟩
    have h2 : MH (qa_st x 36 13 (nI H.lw)) H := hm1.setL (l := H.lw)
    refine ⟨qa_st x 36 13 (nI H.lw), ?_, h2, hf.stl (by simp [rL]), ho.tr (o36l.st _ _ _) (fun _ z => z) (by simp)⟩
    show b_X7_laws_25 x (nI s) (nI n) (nI H.lw) acc (nI N) = _
    unfold b_X7_laws_25
    rw [ho 12 (by decide), e12]
    ((try simp only [b_X7_laws_69, li_0, li_1, li_2, li_3, li_4, li_5, li_6, li_7, li_8, li_9, li_10, li_11, li_12, li_13, li_14, li_15, li_16, li_17, li_18, li_19, li_20, li_30, li_31, li_32, li_33, li_40, li_41, li_42, li_43, li_45, li_48, li_56, li_57, li_59, li_60, li_61, li_64, li_91, li_97, li_99, li_100, li_122, li_150, li_160, li_200, li_201, li_255, li_300, li_303, li_304, li_305, li_306, li_312, li_400, li_500, li_999, li_1003, li_3099, li_99999, li_100000, li_1000000, li_65, li_23, li_neg]); (try simp (disch := omega) only [b_X7_laws_69, ic_le_f, ic_le_t, ic_lt_f, ic_lt_t, ic_eq_f, ic_eq_t, ic_im, ic_mi, ic_mm_t, ic_mm_f, ic_mlt, ic_mle, ic_ilem, ic_iltm, ic_mmle_t, ic_mmle_f, pu_add, pu_mul, pu_in, pu_ck, pu_let, pu_cl, pu_cpok, pu_inr, Option.bind_some, ite_true, ite_false, pu_dm, pu_dv, pu_sub, nt_dm, if_true, if_false])))
  have b5 : o36l oL m1 m2 := fun k hk => by
    by_cases z : k = 13
    · rw [z, b2.2.2.2.2.2, e4]
    · exact b4 k (fun y => by
        rcases List.mem_cons.mp y with y | y
        · exact z y
        · exact hk y)
  refine ⟨orF fo N, m1, m2, ?_, ?_, Rel.thk hD a2 b3 b5 b2⟩
  · unfold f_X6_laws
    rw [e1]
    ((try simp only [li_0, li_1, li_2, li_3, li_4, li_5, li_6, li_7, li_8, li_9, li_10, li_11, li_12, li_13, li_14, li_15, li_16, li_17, li_18, li_19, li_20, li_30, li_31, li_32, li_33, li_40, li_41, li_42, li_43, li_45, li_48, li_56, li_57, li_59, li_60, li_61, li_64, li_91, li_97, li_99, li_100, li_122, li_150, li_160, li_200, li_201, li_255, li_300, li_303, li_304, li_305, li_306, li_312, li_400, li_500, li_999, li_1003, li_3099, li_99999, li_100000, li_1000000, li_65, li_23, li_neg]); (try simp (disch := omega) only [ic_le_f, ic_le_t, ic_lt_f, ic_lt_t, ic_eq_f, ic_eq_t, ic_im, ic_mi, ic_mm_t, ic_mm_f, ic_mlt, ic_mle, ic_ilem, ic_iltm, ic_mmle_t, ic_mmle_f, pu_add, pu_mul, pu_in, pu_ck, pu_let, pu_cl, pu_cpok, pu_inr, Option.bind_some, ite_true, ite_false, pu_dm, pu_dv, pu_sub, nt_dm, if_true, if_false]))
    rw [lp_X6_laws_19, a1]
  · unfold f_X7_laws
    rw [e2 _ a2]
    ((try simp only [li_0, li_1, li_2, li_3, li_4, li_5, li_6, li_7, li_8, li_9, li_10, li_11, li_12, li_13, li_14, li_15, li_16, li_17, li_18, li_19, li_20, li_30, li_31, li_32, li_33, li_40, li_41, li_42, li_43, li_45, li_48, li_56, li_57, li_59, li_60, li_61, li_64, li_91, li_97, li_99, li_100, li_122, li_150, li_160, li_200, li_201, li_255, li_300, li_303, li_304, li_305, li_306, li_312, li_400, li_500, li_999, li_1003, li_3099, li_99999, li_100000, li_1000000, li_65, li_23, li_neg]); (try simp (disch := omega) only [ic_le_f, ic_le_t, ic_lt_f, ic_lt_t, ic_eq_f, ic_eq_t, ic_im, ic_mi, ic_mm_t, ic_mm_f, ic_mlt, ic_mle, ic_ilem, ic_iltm, ic_mmle_t, ic_mmle_f, pu_add, pu_mul, pu_in, pu_ck, pu_let, pu_cl, pu_cpok, pu_inr, Option.bind_some, ite_true, ite_false, pu_dm, pu_dv, pu_sub, nt_dm, if_true, if_false]))
    rw [e4, lp_X7_laws_25, b1]
theorem thk_s {S : SF} {j : Nat} {H : HS} (v : HV H) : wksT S 1 (thk S j H) = thk S (j + 1) H := by
  have h := (thk_V (S := S) (n := j) v).2.2.1
  show wkT S ((thk S j H).1.R 0) ((thk S j H).1.R 2) (thk S j H) = wkT S (H.R 0) (H.R 2) (thk S j H)
  rw [h]
def fsF (fo : Nat → Nat) : Nat → Nat
  | 0 => 0
  | j + 1 => if fo j = 0 ∧ fsF fo j = 0 then j + 1 else fsF fo j
def mnF (fo : Nat → Nat) : Nat → Nat
  | 0 => 0
  | j + 1 => mnF fo j + (if fo j = 0 then 1 else 0)
theorem fsF_s (fo : Nat → Nat) (j : Nat) : fsF fo (j + 1) = if fo j = 0 ∧ fsF fo j = 0 then j + 1 else fsF fo j := rfl
theorem mnF_s (fo : Nat → Nat) (j : Nat) : mnF fo (j + 1) = mnF fo j + (if fo j = 0 then 1 else 0) := rfl
theorem fsF_le (fo : Nat → Nat) (j : Nat) : fsF fo j ≤ j := by
  induction j with
  | zero => exact Nat.le_refl _
  | succ j ih =>
    unfold fsF
    split <;> omega
theorem thk_li {S : SF} {j : Nat} {H : HS} (v : HV H) : (thk S j H).2.2.2.2 = j := by
  have h := (seqT_V (S := S) (w := wR H) (ty0_V v) j).2.2
  show (seqT S (wR H) j (ty0 H)).2.2.2.2 = j
  rw [h]
  show 0 + j = j
  omega
theorem qp_weeks : qaP_weeks Rel := by
  intro m a b h
  obtain ⟨H, N, S, hD⟩ := h
  have ⟨c, r, v, hl, hw, t, _, _, sh, nt⟩ := hD
  rcases told0 hD a with ⟨s, hs, rfl, h34, e1, e2⟩ | ⟨y, hy0, e1, e2⟩
  rotate_left
  · have hy : (y = nI 0) = False := eq_false hy0
    refine ⟨y, m, m, ?_, ?_, Rel.mk hD⟩
    · unfold f_X6_weeks
      rw [e1]
      ((try simp only [hy, li_0, li_1, li_2, li_3, li_4, li_5, li_6, li_7, li_8, li_9, li_10, li_11, li_12, li_13, li_14, li_15, li_16, li_17, li_18, li_19, li_20, li_30, li_31, li_32, li_33, li_40, li_41, li_42, li_43, li_45, li_48, li_56, li_57, li_59, li_60, li_61, li_64, li_91, li_97, li_99, li_100, li_122, li_150, li_160, li_200, li_201, li_255, li_300, li_303, li_304, li_305, li_306, li_312, li_400, li_500, li_999, li_1003, li_3099, li_99999, li_100000, li_1000000, li_65, li_23, li_neg]); (try simp (disch := omega) only [hy, ic_le_f, ic_le_t, ic_lt_f, ic_lt_t, ic_eq_f, ic_eq_t, ic_im, ic_mi, ic_mm_t, ic_mm_f, ic_mlt, ic_mle, ic_ilem, ic_iltm, ic_mmle_t, ic_mmle_f, pu_add, pu_mul, pu_in, pu_ck, pu_let, pu_cl, pu_cpok, pu_inr, Option.bind_some, ite_true, ite_false, pu_dm, pu_dv, pu_sub, nt_dm, if_true, if_false]))
    · unfold f_X7_weeks
      rw [e2]
      ((try simp only [hy, li_0, li_1, li_2, li_3, li_4, li_5, li_6, li_7, li_8, li_9, li_10, li_11, li_12, li_13, li_14, li_15, li_16, li_17, li_18, li_19, li_20, li_30, li_31, li_32, li_33, li_40, li_41, li_42, li_43, li_45, li_48, li_56, li_57, li_59, li_60, li_61, li_64, li_91, li_97, li_99, li_100, li_122, li_150, li_160, li_200, li_201, li_255, li_300, li_303, li_304, li_305, li_306, li_312, li_400, li_500, li_999, li_1003, li_3099, li_99999, li_100000, li_1000000, li_65, li_23, li_neg]); (try simp (disch := omega) only [hy, ic_le_f, ic_le_t, ic_lt_f, ic_lt_t, ic_eq_f, ic_eq_t, ic_im, ic_mi, ic_mm_t, ic_mm_f, ic_mlt, ic_mle, ic_ilem, ic_iltm, ic_mmle_t, ic_mmle_f, pu_add, pu_mul, pu_in, pu_ck, pu_let, pu_cl, pu_cpok, pu_inr, Option.bind_some, ite_true, ite_false, pu_dm, pu_dv, pu_sub, nt_dm, if_true, if_false]))
  have e3 : f_X6_refusalOfTelling m (nI s) (nI 0) = some (nI 0) := by
    rw [e1]
    ((try simp only [f_X6_isWeeks, li_0, li_1, li_2, li_3, li_4, li_5, li_6, li_7, li_8, li_9, li_10, li_11, li_12, li_13, li_14, li_15, li_16, li_17, li_18, li_19, li_20, li_30, li_31, li_32, li_33, li_40, li_41, li_42, li_43, li_45, li_48, li_56, li_57, li_59, li_60, li_61, li_64, li_91, li_97, li_99, li_100, li_122, li_150, li_160, li_200, li_201, li_255, li_300, li_303, li_304, li_305, li_306, li_312, li_400, li_500, li_999, li_1003, li_3099, li_99999, li_100000, li_1000000, li_65, li_23, li_neg]); (try simp (disch := omega) only [f_X6_isWeeks, ic_le_f, ic_le_t, ic_lt_f, ic_lt_t, ic_eq_f, ic_eq_t, ic_im, ic_mi, ic_mm_t, ic_mm_f, ic_mlt, ic_mle, ic_ilem, ic_iltm, ic_mmle_t, ic_mmle_f, pu_add, pu_mul, pu_in, pu_ck, pu_let, pu_cl, pu_cpok, pu_inr, Option.bind_some, ite_true, ite_false, pu_dm, pu_dv, pu_sub, nt_dm, if_true, if_false]))
  rcases upTo 1 2 rfl (by omega) b with ⟨k, hk, rfl⟩ | hx
  rotate_left
  · have e4 := e2 m (qF.rf _ _)
    rcases hx with ⟨h1, h2, h3, h4, h5, h6⟩ | ⟨h1, h2, h3, h4, h5, h6⟩
    all_goals
      refine ⟨nM 7, m, m, ?_, ?_, Rel.mk hD⟩
      · ((try simp only [f_X6_weeks, e3, h1, h2, h3, h4, h5, h6, li_0, li_1, li_2, li_3, li_4, li_5, li_6, li_7, li_8, li_9, li_10, li_11, li_12, li_13, li_14, li_15, li_16, li_17, li_18, li_19, li_20, li_30, li_31, li_32, li_33, li_40, li_41, li_42, li_43, li_45, li_48, li_56, li_57, li_59, li_60, li_61, li_64, li_91, li_97, li_99, li_100, li_122, li_150, li_160, li_200, li_201, li_255, li_300, li_303, li_304, li_305, li_306, li_312, li_400, li_500, li_999, li_1003, li_3099, li_99999, li_100000, li_1000000, li_65, li_23, li_neg]); (try simp (disch := omega) only [f_X6_weeks, e3, h1, h2, h3, h4, h5, h6, ic_le_f, ic_le_t, ic_lt_f, ic_lt_t, ic_eq_f, ic_eq_t, ic_im, ic_mi, ic_mm_t, ic_mm_f, ic_mlt, ic_mle, ic_ilem, ic_iltm, ic_mmle_t, ic_mmle_f, pu_add, pu_mul, pu_in, pu_ck, pu_let, pu_cl, pu_cpok, pu_inr, Option.bind_some, ite_true, ite_false, pu_dm, pu_dv, pu_sub, nt_dm, if_true, if_false]))
      · ((try simp only [f_X7_weeks, e4, f_X7_in, h1, h2, h3, h4, h5, h6, li_0, li_1, li_2, li_3, li_4, li_5, li_6, li_7, li_8, li_9, li_10, li_11, li_12, li_13, li_14, li_15, li_16, li_17, li_18, li_19, li_20, li_30, li_31, li_32, li_33, li_40, li_41, li_42, li_43, li_45, li_48, li_56, li_57, li_59, li_60, li_61, li_64, li_91, li_97, li_99, li_100, li_122, li_150, li_160, li_200, li_201, li_255, li_300, li_303, li_304, li_305, li_306, li_312, li_400, li_500, li_999, li_1003, li_3099, li_99999, li_100000, li_1000000, li_65, li_23, li_neg]); (try simp (disch := omega) only [f_X7_weeks, e4, f_X7_in, h1, h2, h3, h4, h5, h6, ic_le_f, ic_le_t, ic_lt_f, ic_lt_t, ic_eq_f, ic_eq_t, ic_im, ic_mi, ic_mm_t, ic_mm_f, ic_mlt, ic_mle, ic_ilem, ic_iltm, ic_mmle_t, ic_mmle_f, pu_add, pu_mul, pu_in, pu_ck, pu_let, pu_cl, pu_cpok, pu_inr, Option.bind_some, ite_true, ite_false, pu_dm, pu_dv, pu_sub, nt_dm, if_true, if_false]))
  obtain ⟨fo, hfo⟩ : ∃ fo : Nat → Nat, ∀ j, fo j = foR (fun i => m 35 (40 * s + i)) (thk S j H).1.A H.n := ⟨_, fun _ => rfl⟩
  have hle : ∀ j, fo j ≤ 8 := fun j => by
    rw [hfo]
    exact Nat.le_trans (foR_le _ _ _) v.n8
  have hz : ∀ j, (plI (fo j) = nM 1) = (fo j = 0) := fun j => propext (plI_z (by have := hle j; omega))
  have hz2 : ∀ j, j ≤ 100 → (plI (fsF fo j) = nM 1) = (fsF fo j = 0) := fun j hj => propext (plI_z (by have := fsF_le fo j; omega))
  obtain ⟨ans, hans⟩ : ∃ ans : Int32, ans = if k = 0 then plI (fsF fo 61) else nI (mnF fo 61) := ⟨_, rfl⟩
  obtain ⟨x0, a1, a2, a3⟩ := kbeg c (qF.rf kL m)
  obtain ⟨r1, b1, b2, b3⟩ := lp_at (f := fun s' : qaM × Int32 × Int32 × Int32 => b_X6_weeks_45 s'.1 (nI s) (nI k) s'.2.1 s'.2.2.1 s'.2.2.2) (fun j s' => s'.2 = (plI (fsF fo j), nI (mnF fo j), nI j) ∧ CY s'.1 20 (thk S j H) ∧ qF kL m s'.1) (fun q => q.1 = ans ∧ qF kL m q.2) 61 (s := (x0, nM 1, nI 0, nI 0)) ⟨rfl, a2, a3⟩ (by omega) (by
    rintro j ⟨x, k2⟩ hj ⟨hk2, cy, hf⟩
    have hk3 : k2 = (plI (fsF fo j), nI (mnF fo j), nI j) := hk2
    replace hf : qF kL m x := hf
    replace cy : CY x 20 (thk S j H) := cy
    subst hk3
    show (∃ s', b_X6_weeks_45 x (nI s) (nI k) (plI (fsF fo j)) (nI (mnF fo j)) (nI j) = some (.inl s') ∧ _) ∨ (∃ q, b_X6_weeks_45 x (nI s) (nI k) (plI (fsF fo j)) (nI (mnF fo j)) (nI j) = some (.inr q) ∧ _)
    unfold b_X6_weeks_45
    rcases Nat.lt_or_ge j 61 with q | q
    · have hv := thk_V (S := S) (n := j) v
      have hk4 := kfirst (s := s) (g := fun i => m 35 (40 * s + i)) cy hv.1 hs (by rw [hf 34 (by decide), h34, hv.2.1]) (fun i _ => by rw [hf 35 (by decide)])
      rw [hv.2.1, ← hfo] at hk4
      obtain ⟨x2, g1, g2, g3⟩ := kweeks (n := 1) cy hv.1 (by omega) (t.2.2.2.2.1.kL hf) t.2.2.2.2.2.2 (by rw [hv.2.2.2]; exact hl) (by omega) (by rw [thk_li v]; omega)
      rw [thk_s v] at g2
      refine Or.inl ⟨(x2, plI (fsF fo (j + 1)), nI (mnF fo (j + 1)), nI (j + 1)), ?_, q, rfl, g2, hf.t2 g3 (by simp [kL])⟩
      simp only [li_0, li_1, li_2, li_3, li_4, li_5, li_6, li_7, li_8, li_9, li_10, li_11, li_12, li_13, li_14, li_15, li_16, li_17, li_18, li_19, li_20, li_30, li_31, li_32, li_33, li_40, li_41, li_42, li_43, li_45, li_48, li_56, li_57, li_59, li_60, li_61, li_64, li_91, li_97, li_99, li_100, li_122, li_150, li_160, li_200, li_201, li_255, li_300, li_303, li_304, li_305, li_306, li_312, li_400, li_500, li_999, li_1003, li_3099, li_99999, li_100000, li_1000000, li_65, li_23, li_neg]
      rw [ic_lt_f (by omega) (by omega), hk4, Option.bind_some]
      have hz3 := hz2 j (by omega)
      simp only [hz, hz3]
      rw [fsF_s, mnF_s]
      by_cases z : fo j = 0
      · by_cases y : fsF fo j = 0
        · rw [if_pos z, if_pos y, if_pos ⟨z, y⟩, if_pos z, plI_s]
          ((try simp only [b_X6_weeks_74, b_X6_weeks_79, li_0, li_1, li_2, li_3, li_4, li_5, li_6, li_7, li_8, li_9, li_10, li_11, li_12, li_13, li_14, li_15, li_16, li_17, li_18, li_19, li_20, li_30, li_31, li_32, li_33, li_40, li_41, li_42, li_43, li_45, li_48, li_56, li_57, li_59, li_60, li_61, li_64, li_91, li_97, li_99, li_100, li_122, li_150, li_160, li_200, li_201, li_255, li_300, li_303, li_304, li_305, li_306, li_312, li_400, li_500, li_999, li_1003, li_3099, li_99999, li_100000, li_1000000, li_65, li_23, li_neg]); (try simp (disch := omega) only [b_X6_weeks_74, b_X6_weeks_79, ic_le_f, ic_le_t, ic_lt_f, ic_lt_t, ic_eq_f, ic_eq_t, ic_im, ic_mi, ic_mm_t, ic_mm_f, ic_mlt, ic_mle, ic_ilem, ic_iltm, ic_mmle_t, ic_mmle_f, pu_add, pu_mul, pu_in, pu_ck, pu_let, pu_cl, pu_cpok, pu_inr, Option.bind_some, ite_true, ite_false, pu_dm, pu_dv, pu_sub, nt_dm, if_true, if_false]))
          rw [g1]
          ((try simp only [li_0, li_1, li_2, li_3, li_4, li_5, li_6, li_7, li_8, li_9, li_10, li_11, li_12, li_13, li_14, li_15, li_16, li_17, li_18, li_19, li_20, li_30, li_31, li_32, li_33, li_40, li_41, li_42, li_43, li_45, li_48, li_56, li_57, li_59, li_60, li_61, li_64, li_91, li_97, li_99, li_100, li_122, li_150, li_160, li_200, li_201, li_255, li_300, li_303, li_304, li_305, li_306, li_312, li_400, li_500, li_999, li_1003, li_3099, li_99999, li_100000, li_1000000, li_65, li_23, li_neg]); (try simp (disch := omega) only [ic_le_f, ic_le_t, ic_lt_f, ic_lt_t, ic_eq_f, ic_eq_t, ic_im, ic_mi, ic_mm_t, ic_mm_f, ic_mlt, ic_mle, ic_ilem, ic_iltm, ic_mmle_t, ic_mmle_f, pu_add, pu_mul, pu_in, pu_ck, pu_let, pu_cl, pu_cpok, pu_inr, Option.bind_some, ite_true, ite_false, pu_dm, pu_dv, pu_sub, nt_dm, if_true, if_false]))
        · rw [if_pos z, if_neg y, if_neg (fun w => y w.2), if_pos z]
          ((try simp only [b_X6_weeks_74, b_X6_weeks_79, li_0, li_1, li_2, li_3, li_4, li_5, li_6, li_7, li_8, li_9, li_10, li_11, li_12, li_13, li_14, li_15, li_16, li_17, li_18, li_19, li_20, li_30, li_31, li_32, li_33, li_40, li_41, li_42, li_43, li_45, li_48, li_56, li_57, li_59, li_60, li_61, li_64, li_91, li_97, li_99, li_100, li_122, li_150, li_160, li_200, li_201, li_255, li_300, li_303, li_304, li_305, li_306, li_312, li_400, li_500, li_999, li_1003, li_3099, li_99999, li_100000, li_1000000, li_65, li_23, li_neg]); (try simp (disch := omega) only [b_X6_weeks_74, b_X6_weeks_79, ic_le_f, ic_le_t, ic_lt_f, ic_lt_t, ic_eq_f, ic_eq_t, ic_im, ic_mi, ic_mm_t, ic_mm_f, ic_mlt, ic_mle, ic_ilem, ic_iltm, ic_mmle_t, ic_mmle_f, pu_add, pu_mul, pu_in, pu_ck, pu_let, pu_cl, pu_cpok, pu_inr, Option.bind_some, ite_true, ite_false, pu_dm, pu_dv, pu_sub, nt_dm, if_true, if_false]))
          rw [g1]
          ((try simp only [li_0, li_1, li_2, li_3, li_4, li_5, li_6, li_7, li_8, li_9, li_10, li_11, li_12, li_13, li_14, li_15, li_16, li_17, li_18, li_19, li_20, li_30, li_31, li_32, li_33, li_40, li_41, li_42, li_43, li_45, li_48, li_56, li_57, li_59, li_60, li_61, li_64, li_91, li_97, li_99, li_100, li_122, li_150, li_160, li_200, li_201, li_255, li_300, li_303, li_304, li_305, li_306, li_312, li_400, li_500, li_999, li_1003, li_3099, li_99999, li_100000, li_1000000, li_65, li_23, li_neg]); (try simp (disch := omega) only [ic_le_f, ic_le_t, ic_lt_f, ic_lt_t, ic_eq_f, ic_eq_t, ic_im, ic_mi, ic_mm_t, ic_mm_f, ic_mlt, ic_mle, ic_ilem, ic_iltm, ic_mmle_t, ic_mmle_f, pu_add, pu_mul, pu_in, pu_ck, pu_let, pu_cl, pu_cpok, pu_inr, Option.bind_some, ite_true, ite_false, pu_dm, pu_dv, pu_sub, nt_dm, if_true, if_false]))
      · rw [if_neg z, if_neg (fun w => z w.1), if_neg z]
        ((try simp only [b_X6_weeks_79, li_0, li_1, li_2, li_3, li_4, li_5, li_6, li_7, li_8, li_9, li_10, li_11, li_12, li_13, li_14, li_15, li_16, li_17, li_18, li_19, li_20, li_30, li_31, li_32, li_33, li_40, li_41, li_42, li_43, li_45, li_48, li_56, li_57, li_59, li_60, li_61, li_64, li_91, li_97, li_99, li_100, li_122, li_150, li_160, li_200, li_201, li_255, li_300, li_303, li_304, li_305, li_306, li_312, li_400, li_500, li_999, li_1003, li_3099, li_99999, li_100000, li_1000000, li_65, li_23, li_neg]); (try simp (disch := omega) only [b_X6_weeks_79, ic_le_f, ic_le_t, ic_lt_f, ic_lt_t, ic_eq_f, ic_eq_t, ic_im, ic_mi, ic_mm_t, ic_mm_f, ic_mlt, ic_mle, ic_ilem, ic_iltm, ic_mmle_t, ic_mmle_f, pu_add, pu_mul, pu_in, pu_ck, pu_let, pu_cl, pu_cpok, pu_inr, Option.bind_some, ite_true, ite_false, pu_dm, pu_dv, pu_sub, nt_dm, if_true, if_false]))
        rw [g1]
        ((try simp only [Nat.add_zero, li_0, li_1, li_2, li_3, li_4, li_5, li_6, li_7, li_8, li_9, li_10, li_11, li_12, li_13, li_14, li_15, li_16, li_17, li_18, li_19, li_20, li_30, li_31, li_32, li_33, li_40, li_41, li_42, li_43, li_45, li_48, li_56, li_57, li_59, li_60, li_61, li_64, li_91, li_97, li_99, li_100, li_122, li_150, li_160, li_200, li_201, li_255, li_300, li_303, li_304, li_305, li_306, li_312, li_400, li_500, li_999, li_1003, li_3099, li_99999, li_100000, li_1000000, li_65, li_23, li_neg]); (try simp (disch := omega) only [Nat.add_zero, ic_le_f, ic_le_t, ic_lt_f, ic_lt_t, ic_eq_f, ic_eq_t, ic_im, ic_mi, ic_mm_t, ic_mm_f, ic_mlt, ic_mle, ic_ilem, ic_iltm, ic_mmle_t, ic_mmle_f, pu_add, pu_mul, pu_in, pu_ck, pu_let, pu_cl, pu_cpok, pu_inr, Option.bind_some, ite_true, ite_false, pu_dm, pu_dv, pu_sub, nt_dm, if_true, if_false]))
    · have : j = 61 := by omega
      subst this
      refine Or.inr ⟨(ans, x), ?_, rfl, hf⟩
      simp only [li_0, li_1, li_2, li_3, li_4, li_5, li_6, li_7, li_8, li_9, li_10, li_11, li_12, li_13, li_14, li_15, li_16, li_17, li_18, li_19, li_20, li_30, li_31, li_32, li_33, li_40, li_41, li_42, li_43, li_45, li_48, li_56, li_57, li_59, li_60, li_61, li_64, li_91, li_97, li_99, li_100, li_122, li_150, li_160, li_200, li_201, li_255, li_300, li_303, li_304, li_305, li_306, li_312, li_400, li_500, li_999, li_1003, li_3099, li_99999, li_100000, li_1000000, li_65, li_23, li_neg]
      rw [ic_lt_t (by omega) (by omega), hans]
      by_cases z : k = 0
      · rw [if_pos z, z]
        ((try simp only [b_X6_weeks_93, li_0, li_1, li_2, li_3, li_4, li_5, li_6, li_7, li_8, li_9, li_10, li_11, li_12, li_13, li_14, li_15, li_16, li_17, li_18, li_19, li_20, li_30, li_31, li_32, li_33, li_40, li_41, li_42, li_43, li_45, li_48, li_56, li_57, li_59, li_60, li_61, li_64, li_91, li_97, li_99, li_100, li_122, li_150, li_160, li_200, li_201, li_255, li_300, li_303, li_304, li_305, li_306, li_312, li_400, li_500, li_999, li_1003, li_3099, li_99999, li_100000, li_1000000, li_65, li_23, li_neg]); (try simp (disch := omega) only [b_X6_weeks_93, ic_le_f, ic_le_t, ic_lt_f, ic_lt_t, ic_eq_f, ic_eq_t, ic_im, ic_mi, ic_mm_t, ic_mm_f, ic_mlt, ic_mle, ic_ilem, ic_iltm, ic_mmle_t, ic_mmle_f, pu_add, pu_mul, pu_in, pu_ck, pu_let, pu_cl, pu_cpok, pu_inr, Option.bind_some, ite_true, ite_false, pu_dm, pu_dv, pu_sub, nt_dm, if_true, if_false]))
      · rw [if_neg z]
        ((try simp only [b_X6_weeks_93, li_0, li_1, li_2, li_3, li_4, li_5, li_6, li_7, li_8, li_9, li_10, li_11, li_12, li_13, li_14, li_15, li_16, li_17, li_18, li_19, li_20, li_30, li_31, li_32, li_33, li_40, li_41, li_42, li_43, li_45, li_48, li_56, li_57, li_59, li_60, li_61, li_64, li_91, li_97, li_99, li_100, li_122, li_150, li_160, li_200, li_201, li_255, li_300, li_303, li_304, li_305, li_306, li_312, li_400, li_500, li_999, li_1003, li_3099, li_99999, li_100000, li_1000000, li_65, li_23, li_neg]); (try simp (disch := omega) only [b_X6_weeks_93, ic_le_f, ic_le_t, ic_lt_f, ic_lt_t, ic_eq_f, ic_eq_t, ic_im, ic_mi, ic_mm_t, ic_mm_f, ic_mlt, ic_mle, ic_ilem, ic_iltm, ic_mmle_t, ic_mmle_f, pu_add, pu_mul, pu_in, pu_ck, pu_let, pu_cl, pu_cpok, pu_inr, Option.bind_some, ite_true, ite_false, pu_dm, pu_dv, pu_sub, nt_dm, if_true, if_false])))
  have r1m : MH r1.2 H := r.cl b3 (by decide)
  have tr := t.2.2.2.2.2.1.F b3 (by decide) (by decide)
  obtain ⟨r2, d1, d2, d3, d4, d5⟩ := lp_at (f := fun s' : qaM × Int32 × Int32 × Int32 => b_X7_weeks_33 s'.1 (nI s) (nI k) s'.2.1 s'.2.2.1 s'.2.2.2) (fun j s' => s'.2 = (plI (fsF fo j), nI (mnF fo j), nI j) ∧ MH s'.1 H ∧ qF rL r1.2 s'.1 ∧ o36l oL r1.2 s'.1) (fun q => q.1 = ans ∧ MH q.2 H ∧ qF rL r1.2 q.2 ∧ o36l oL r1.2 q.2) 61 (s := (r1.2, nM 1, nI 0, nI 0)) ⟨rfl, r1m, qF.rf _ _, o36l.rf _ _⟩ (by omega) (by
    rintro j ⟨x, k2⟩ hj ⟨hk2, hm, hf, ho⟩
    have hk3 : k2 = (plI (fsF fo j), nI (mnF fo j), nI j) := hk2
    replace hf : qF rL r1.2 x := hf
    replace ho : o36l oL r1.2 x := ho
    replace hm : MH x H := hm
    subst hk3
    show (∃ s', b_X7_weeks_33 x (nI s) (nI k) (plI (fsF fo j)) (nI (mnF fo j)) (nI j) = some (.inl s') ∧ _) ∨ (∃ q, b_X7_weeks_33 x (nI s) (nI k) (plI (fsF fo j)) (nI (mnF fo j)) (nI j) = some (.inr q) ∧ _)
    unfold b_X7_weeks_33
    rcases Nat.lt_or_ge j 61 with q | q
    · obtain ⟨x2, g1, g2, g3, g4⟩ := r7unlike (s := s) (n := j) (g := fun i => m 35 (40 * s + i)) hm v (tr.rL hf) t.2.2.2.2.2.2 hl (by omega) hf ho hs (fun i hi => by rw [hf 50 (by decide)]; exact sh.g hs b3 (by decide) i hi)
      rw [← hfo] at g1
      refine Or.inl ⟨(x2, plI (fsF fo (j + 1)), nI (mnF fo (j + 1)), nI (j + 1)), ?_, q, rfl, g2, g3, g4⟩
      simp only [li_0, li_1, li_2, li_3, li_4, li_5, li_6, li_7, li_8, li_9, li_10, li_11, li_12, li_13, li_14, li_15, li_16, li_17, li_18, li_19, li_20, li_30, li_31, li_32, li_33, li_40, li_41, li_42, li_43, li_45, li_48, li_56, li_57, li_59, li_60, li_61, li_64, li_91, li_97, li_99, li_100, li_122, li_150, li_160, li_200, li_201, li_255, li_300, li_303, li_304, li_305, li_306, li_312, li_400, li_500, li_999, li_1003, li_3099, li_99999, li_100000, li_1000000, li_65, li_23, li_neg]
      rw [ic_lt_f (by omega) (by omega), g1, Option.bind_some]
      show (if plI (fo j) = nM 1 then _ else _) = _
      simp only [hz]
      rw [fsF_s, mnF_s]
      have hz3 := hz2 j (by omega)
      by_cases z : fo j = 0
      · by_cases y : fsF fo j = 0
        · rw [if_pos z, if_pos ⟨z, y⟩, if_pos z, plI_s]
          ((try simp only [b_X7_weeks_56, hz3, y, plI_0, b_X7_weeks_76, b_X7_weeks_90, li_0, li_1, li_2, li_3, li_4, li_5, li_6, li_7, li_8, li_9, li_10, li_11, li_12, li_13, li_14, li_15, li_16, li_17, li_18, li_19, li_20, li_30, li_31, li_32, li_33, li_40, li_41, li_42, li_43, li_45, li_48, li_56, li_57, li_59, li_60, li_61, li_64, li_91, li_97, li_99, li_100, li_122, li_150, li_160, li_200, li_201, li_255, li_300, li_303, li_304, li_305, li_306, li_312, li_400, li_500, li_999, li_1003, li_3099, li_99999, li_100000, li_1000000, li_65, li_23, li_neg]); (try simp (disch := omega) only [b_X7_weeks_56, hz3, y, plI_0, b_X7_weeks_76, b_X7_weeks_90, ic_le_f, ic_le_t, ic_lt_f, ic_lt_t, ic_eq_f, ic_eq_t, ic_im, ic_mi, ic_mm_t, ic_mm_f, ic_mlt, ic_mle, ic_ilem, ic_iltm, ic_mmle_t, ic_mmle_f, pu_add, pu_mul, pu_in, pu_ck, pu_let, pu_cl, pu_cpok, pu_inr, Option.bind_some, ite_true, ite_false, pu_dm, pu_dv, pu_sub, nt_dm, if_true, if_false]))
        · rw [if_pos z, if_neg (fun w => y w.2), if_pos z]
          ((try simp only [b_X7_weeks_56, hz3, y, b_X7_weeks_74, b_X7_weeks_76, b_X7_weeks_90, li_0, li_1, li_2, li_3, li_4, li_5, li_6, li_7, li_8, li_9, li_10, li_11, li_12, li_13, li_14, li_15, li_16, li_17, li_18, li_19, li_20, li_30, li_31, li_32, li_33, li_40, li_41, li_42, li_43, li_45, li_48, li_56, li_57, li_59, li_60, li_61, li_64, li_91, li_97, li_99, li_100, li_122, li_150, li_160, li_200, li_201, li_255, li_300, li_303, li_304, li_305, li_306, li_312, li_400, li_500, li_999, li_1003, li_3099, li_99999, li_100000, li_1000000, li_65, li_23, li_neg]); (try simp (disch := omega) only [b_X7_weeks_56, hz3, y, b_X7_weeks_74, b_X7_weeks_76, b_X7_weeks_90, ic_le_f, ic_le_t, ic_lt_f, ic_lt_t, ic_eq_f, ic_eq_t, ic_im, ic_mi, ic_mm_t, ic_mm_f, ic_mlt, ic_mle, ic_ilem, ic_iltm, ic_mmle_t, ic_mmle_f, pu_add, pu_mul, pu_in, pu_ck, pu_let, pu_cl, pu_cpok, pu_inr, Option.bind_some, ite_true, ite_false, pu_dm, pu_dv, pu_sub, nt_dm, if_true, if_false]))
      · rw [if_neg z, if_neg (fun w => z w.1), if_neg z]
        ((try simp only [b_X7_weeks_56, b_X7_weeks_74, b_X7_weeks_76, b_X7_weeks_90, Nat.add_zero, li_0, li_1, li_2, li_3, li_4, li_5, li_6, li_7, li_8, li_9, li_10, li_11, li_12, li_13, li_14, li_15, li_16, li_17, li_18, li_19, li_20, li_30, li_31, li_32, li_33, li_40, li_41, li_42, li_43, li_45, li_48, li_56, li_57, li_59, li_60, li_61, li_64, li_91, li_97, li_99, li_100, li_122, li_150, li_160, li_200, li_201, li_255, li_300, li_303, li_304, li_305, li_306, li_312, li_400, li_500, li_999, li_1003, li_3099, li_99999, li_100000, li_1000000, li_65, li_23, li_neg]); (try simp (disch := omega) only [b_X7_weeks_56, b_X7_weeks_74, b_X7_weeks_76, b_X7_weeks_90, Nat.add_zero, ic_le_f, ic_le_t, ic_lt_f, ic_lt_t, ic_eq_f, ic_eq_t, ic_im, ic_mi, ic_mm_t, ic_mm_f, ic_mlt, ic_mle, ic_ilem, ic_iltm, ic_mmle_t, ic_mmle_f, pu_add, pu_mul, pu_in, pu_ck, pu_let, pu_cl, pu_cpok, pu_inr, Option.bind_some, ite_true, ite_false, pu_dm, pu_dv, pu_sub, nt_dm, if_true, if_false]))
    · have : j = 61 := by omega
      subst this
      refine Or.inr ⟨(ans, x), ?_, rfl, hm, hf, ho⟩
      simp only [li_0, li_1, li_2, li_3, li_4, li_5, li_6, li_7, li_8, li_9, li_10, li_11, li_12, li_13, li_14, li_15, li_16, li_17, li_18, li_19, li_20, li_30, li_31, li_32, li_33, li_40, li_41, li_42, li_43, li_45, li_48, li_56, li_57, li_59, li_60, li_61, li_64, li_91, li_97, li_99, li_100, li_122, li_150, li_160, li_200, li_201, li_255, li_300, li_303, li_304, li_305, li_306, li_312, li_400, li_500, li_999, li_1003, li_3099, li_99999, li_100000, li_1000000, li_65, li_23, li_neg]
      rw [ic_lt_t (by omega) (by omega), hans]
      by_cases z : k = 0
      · rw [if_pos z, z]
        ((try simp only [b_X7_weeks_99, li_0, li_1, li_2, li_3, li_4, li_5, li_6, li_7, li_8, li_9, li_10, li_11, li_12, li_13, li_14, li_15, li_16, li_17, li_18, li_19, li_20, li_30, li_31, li_32, li_33, li_40, li_41, li_42, li_43, li_45, li_48, li_56, li_57, li_59, li_60, li_61, li_64, li_91, li_97, li_99, li_100, li_122, li_150, li_160, li_200, li_201, li_255, li_300, li_303, li_304, li_305, li_306, li_312, li_400, li_500, li_999, li_1003, li_3099, li_99999, li_100000, li_1000000, li_65, li_23, li_neg]); (try simp (disch := omega) only [b_X7_weeks_99, ic_le_f, ic_le_t, ic_lt_f, ic_lt_t, ic_eq_f, ic_eq_t, ic_im, ic_mi, ic_mm_t, ic_mm_f, ic_mlt, ic_mle, ic_ilem, ic_iltm, ic_mmle_t, ic_mmle_f, pu_add, pu_mul, pu_in, pu_ck, pu_let, pu_cl, pu_cpok, pu_inr, Option.bind_some, ite_true, ite_false, pu_dm, pu_dv, pu_sub, nt_dm, if_true, if_false]))
      · rw [if_neg z]
        ((try simp only [b_X7_weeks_99, li_0, li_1, li_2, li_3, li_4, li_5, li_6, li_7, li_8, li_9, li_10, li_11, li_12, li_13, li_14, li_15, li_16, li_17, li_18, li_19, li_20, li_30, li_31, li_32, li_33, li_40, li_41, li_42, li_43, li_45, li_48, li_56, li_57, li_59, li_60, li_61, li_64, li_91, li_97, li_99, li_100, li_122, li_150, li_160, li_200, li_201, li_255, li_300, li_303, li_304, li_305, li_306, li_312, li_400, li_500, li_999, li_1003, li_3099, li_99999, li_100000, li_1000000, li_65, li_23, li_neg]); (try simp (disch := omega) only [b_X7_weeks_99, ic_le_f, ic_le_t, ic_lt_f, ic_lt_t, ic_eq_f, ic_eq_t, ic_im, ic_mi, ic_mm_t, ic_mm_f, ic_mlt, ic_mle, ic_ilem, ic_iltm, ic_mmle_t, ic_mmle_f, pu_add, pu_mul, pu_in, pu_ck, pu_let, pu_cl, pu_cpok, pu_inr, Option.bind_some, ite_true, ite_false, pu_dm, pu_dv, pu_sub, nt_dm, if_true, if_false])))
  refine ⟨ans, r1.2, r2.2, ?_, ?_, Rel.thk hD b3 d4 d5 d3⟩
  · unfold f_X6_weeks
    simp only [li_0, li_1, li_2, li_3, li_4, li_5, li_6, li_7, li_8, li_9, li_10, li_11, li_12, li_13, li_14, li_15, li_16, li_17, li_18, li_19, li_20, li_30, li_31, li_32, li_33, li_40, li_41, li_42, li_43, li_45, li_48, li_56, li_57, li_59, li_60, li_61, li_64, li_91, li_97, li_99, li_100, li_122, li_150, li_160, li_200, li_201, li_255, li_300, li_303, li_304, li_305, li_306, li_312, li_400, li_500, li_999, li_1003, li_3099, li_99999, li_100000, li_1000000, li_65, li_23, li_neg]
    rw [e3]
    ((try simp only [li_0, li_1, li_2, li_3, li_4, li_5, li_6, li_7, li_8, li_9, li_10, li_11, li_12, li_13, li_14, li_15, li_16, li_17, li_18, li_19, li_20, li_30, li_31, li_32, li_33, li_40, li_41, li_42, li_43, li_45, li_48, li_56, li_57, li_59, li_60, li_61, li_64, li_91, li_97, li_99, li_100, li_122, li_150, li_160, li_200, li_201, li_255, li_300, li_303, li_304, li_305, li_306, li_312, li_400, li_500, li_999, li_1003, li_3099, li_99999, li_100000, li_1000000, li_65, li_23, li_neg]); (try simp (disch := omega) only [ic_le_f, ic_le_t, ic_lt_f, ic_lt_t, ic_eq_f, ic_eq_t, ic_im, ic_mi, ic_mm_t, ic_mm_f, ic_mlt, ic_mle, ic_ilem, ic_iltm, ic_mmle_t, ic_mmle_f, pu_add, pu_mul, pu_in, pu_ck, pu_let, pu_cl, pu_cpok, pu_inr, Option.bind_some, ite_true, ite_false, pu_dm, pu_dv, pu_sub, nt_dm, if_true, if_false]))
    rw [a1]
    ((try simp only [li_0, li_1, li_2, li_3, li_4, li_5, li_6, li_7, li_8, li_9, li_10, li_11, li_12, li_13, li_14, li_15, li_16, li_17, li_18, li_19, li_20, li_30, li_31, li_32, li_33, li_40, li_41, li_42, li_43, li_45, li_48, li_56, li_57, li_59, li_60, li_61, li_64, li_91, li_97, li_99, li_100, li_122, li_150, li_160, li_200, li_201, li_255, li_300, li_303, li_304, li_305, li_306, li_312, li_400, li_500, li_999, li_1003, li_3099, li_99999, li_100000, li_1000000, li_65, li_23, li_neg]); (try simp (disch := omega) only [ic_le_f, ic_le_t, ic_lt_f, ic_lt_t, ic_eq_f, ic_eq_t, ic_im, ic_mi, ic_mm_t, ic_mm_f, ic_mlt, ic_mle, ic_ilem, ic_iltm, ic_mmle_t, ic_mmle_f, pu_add, pu_mul, pu_in, pu_ck, pu_let, pu_cl, pu_cpok, pu_inr, Option.bind_some, ite_true, ite_false, pu_dm, pu_dv, pu_sub, nt_dm, if_true, if_false]))
    rw [lp_X6_weeks_45, b1, ← b2]
  · unfold f_X7_weeks
    rw [e2 _ b3]
    ((try simp only [f_X7_in, li_0, li_1, li_2, li_3, li_4, li_5, li_6, li_7, li_8, li_9, li_10, li_11, li_12, li_13, li_14, li_15, li_16, li_17, li_18, li_19, li_20, li_30, li_31, li_32, li_33, li_40, li_41, li_42, li_43, li_45, li_48, li_56, li_57, li_59, li_60, li_61, li_64, li_91, li_97, li_99, li_100, li_122, li_150, li_160, li_200, li_201, li_255, li_300, li_303, li_304, li_305, li_306, li_312, li_400, li_500, li_999, li_1003, li_3099, li_99999, li_100000, li_1000000, li_65, li_23, li_neg]); (try simp (disch := omega) only [f_X7_in, ic_le_f, ic_le_t, ic_lt_f, ic_lt_t, ic_eq_f, ic_eq_t, ic_im, ic_mi, ic_mm_t, ic_mm_f, ic_mlt, ic_mle, ic_ilem, ic_iltm, ic_mmle_t, ic_mmle_f, pu_add, pu_mul, pu_in, pu_ck, pu_let, pu_cl, pu_cpok, pu_inr, Option.bind_some, ite_true, ite_false, pu_dm, pu_dv, pu_sub, nt_dm, if_true, if_false]))
    rw [lp_X7_weeks_33, d1, ← d2]
