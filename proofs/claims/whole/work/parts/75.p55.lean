/-! PURE: feast, which -/
theorem seqT_s (S : SF) (w : Nat → Nat × Nat) (n : Nat) (X : TY) : seqT S w (n + 1) X = wkT S (w n).1 (w n).2 (seqT S w n X) := rfl
theorem seqT_add (S : SF) (w : Nat → Nat × Nat) (a : Nat) (X : TY) : ∀ b : Nat, seqT S w (a + b) X = seqT S (fun k => w (k + a)) b (seqT S w a X) := by
  intro b
  induction b with
  | zero => rfl
  | succ b ih =>
    rw [show a + (b + 1) = (a + b) + 1 by omega, seqT_s, seqT_s, ih, Nat.add_comm a b]
theorem seqT_cg {S : SF} {w w2 : Nat → Nat × Nat} {X : TY} : ∀ n : Nat, (∀ k : Nat, k < n → w k = w2 k) → seqT S w n X = seqT S w2 n X := by
  intro n
  induction n with
  | zero => exact fun _ => rfl
  | succ n ih =>
    intro h
    rw [seqT_s, seqT_s, ih (fun k hk => h k (by omega)), h n (by omega)]
/-- weeks, one of which is a feast -/
def wF (H : HS) (at_ g : Nat) : Nat → Nat × Nat := fun k => if k = at_ then (g, H.R 2) else (H.R 0, H.R 2)
theorem wF_thk {S : SF} {H : HS} {a g : Nat} : seqT S (wF H a g) a (ty0 H) = thk S a H := seqT_cg a (fun k hk => if_neg (by omega))
theorem feast_eq {S : SF} {H : HS} {a g b : Nat} (v : HV H) : wksT S b (wkT S g (H.R 2) (thk S a H)) = seqT S (wF H a g) (a + 1 + b) (ty0 H) := by
  have h1 : seqT S (wF H a g) (a + 1) (ty0 H) = wkT S g (H.R 2) (thk S a H) := by
    rw [seqT_s, wF_thk]
    unfold wF
    rw [if_pos rfl]
  rw [seqT_add, h1]
  have hv := thk_V (S := S) (n := a) v
  have hR : (wkT S g (H.R 2) (thk S a H)).1.R = H.R := (wkT_V (S := S) (wan := g) (how := H.R 2) hv.1).2.1.2.1.trans hv.2.2.1
  unfold wksT
  rw [hR]
  exact seqT_cg b (fun k hk => by
    show (H.R 0, H.R 2) = wF H a g (k + (a + 1))
    unfold wF
    rw [if_neg (by omega)])
theorem qp_feast : qaP_feast Rel := by
  intro m a b d h
  obtain ⟨H, N, S, hD⟩ := h
  have ⟨c, r, v, hl, hw, t, _, _, _, nt⟩ := hD
  have hr := v.rs
  have hgr : qa_gr 0 = nI 8 := by decide
  rcases upTo 200 201 rfl (by omega) a with ⟨n, hn, rfl⟩ | hx
  rotate_left
  · rcases hx with ⟨h1, h2, h3, h4, h5, h6⟩ | ⟨h1, h2, h3, h4, h5, h6⟩
    · have h7 : (a < nI 1) = True := by
        refine eq_true ?_
        have := of_eq_true h1
        rw [Int32.lt_iff_toInt_lt, pu_t (by omega)] at this ⊢
        omega
      refine ⟨nM 1000000, m, m, ?_, ?_, Rel.mk hD⟩
      · ((try simp only [f_X6_feast, h7, li_0, li_1, li_2, li_3, li_4, li_5, li_6, li_7, li_8, li_9, li_10, li_11, li_12, li_13, li_14, li_15, li_16, li_17, li_18, li_19, li_20, li_30, li_31, li_32, li_33, li_40, li_41, li_42, li_43, li_45, li_48, li_56, li_57, li_59, li_60, li_61, li_64, li_91, li_97, li_99, li_100, li_122, li_150, li_160, li_200, li_201, li_255, li_300, li_303, li_304, li_305, li_306, li_312, li_400, li_500, li_999, li_1003, li_3099, li_99999, li_100000, li_1000000, li_65, li_23, li_neg]); (try simp (disch := omega) only [f_X6_feast, h7, ic_le_f, ic_le_t, ic_lt_f, ic_lt_t, ic_eq_f, ic_eq_t, ic_im, ic_mi, ic_mm_t, ic_mm_f, ic_mlt, ic_mle, ic_ilem, ic_iltm, ic_mmle_t, ic_mmle_f, pu_add, pu_mul, pu_in, pu_ck, pu_let, pu_cl, pu_cpok, pu_inr, Option.bind_some, ite_true, ite_false, pu_dm, pu_dv, pu_sub, nt_dm, if_true, if_false]))
      · ((try simp only [f_X7_feast, f_X7_in, h7, li_0, li_1, li_2, li_3, li_4, li_5, li_6, li_7, li_8, li_9, li_10, li_11, li_12, li_13, li_14, li_15, li_16, li_17, li_18, li_19, li_20, li_30, li_31, li_32, li_33, li_40, li_41, li_42, li_43, li_45, li_48, li_56, li_57, li_59, li_60, li_61, li_64, li_91, li_97, li_99, li_100, li_122, li_150, li_160, li_200, li_201, li_255, li_300, li_303, li_304, li_305, li_306, li_312, li_400, li_500, li_999, li_1003, li_3099, li_99999, li_100000, li_1000000, li_65, li_23, li_neg]); (try simp (disch := omega) only [f_X7_feast, f_X7_in, h7, ic_le_f, ic_le_t, ic_lt_f, ic_lt_t, ic_eq_f, ic_eq_t, ic_im, ic_mi, ic_mm_t, ic_mm_f, ic_mlt, ic_mle, ic_ilem, ic_iltm, ic_mmle_t, ic_mmle_f, pu_add, pu_mul, pu_in, pu_ck, pu_let, pu_cl, pu_cpok, pu_inr, Option.bind_some, ite_true, ite_false, pu_dm, pu_dv, pu_sub, nt_dm, if_true, if_false]))
    · have h7 : (a < nI 1) = False := by
        refine eq_false ?_
        have := of_eq_true h3
        rw [Int32.lt_iff_toInt_lt, pu_t (by omega)] at this ⊢
        omega
      refine ⟨nM 1000000, m, m, ?_, ?_, Rel.mk hD⟩
      · ((try simp only [f_X6_feast, h7, h3, li_0, li_1, li_2, li_3, li_4, li_5, li_6, li_7, li_8, li_9, li_10, li_11, li_12, li_13, li_14, li_15, li_16, li_17, li_18, li_19, li_20, li_30, li_31, li_32, li_33, li_40, li_41, li_42, li_43, li_45, li_48, li_56, li_57, li_59, li_60, li_61, li_64, li_91, li_97, li_99, li_100, li_122, li_150, li_160, li_200, li_201, li_255, li_300, li_303, li_304, li_305, li_306, li_312, li_400, li_500, li_999, li_1003, li_3099, li_99999, li_100000, li_1000000, li_65, li_23, li_neg]); (try simp (disch := omega) only [f_X6_feast, h7, h3, ic_le_f, ic_le_t, ic_lt_f, ic_lt_t, ic_eq_f, ic_eq_t, ic_im, ic_mi, ic_mm_t, ic_mm_f, ic_mlt, ic_mle, ic_ilem, ic_iltm, ic_mmle_t, ic_mmle_f, pu_add, pu_mul, pu_in, pu_ck, pu_let, pu_cl, pu_cpok, pu_inr, Option.bind_some, ite_true, ite_false, pu_dm, pu_dv, pu_sub, nt_dm, if_true, if_false]))
      · ((try simp only [f_X7_feast, f_X7_in, h7, h3, li_0, li_1, li_2, li_3, li_4, li_5, li_6, li_7, li_8, li_9, li_10, li_11, li_12, li_13, li_14, li_15, li_16, li_17, li_18, li_19, li_20, li_30, li_31, li_32, li_33, li_40, li_41, li_42, li_43, li_45, li_48, li_56, li_57, li_59, li_60, li_61, li_64, li_91, li_97, li_99, li_100, li_122, li_150, li_160, li_200, li_201, li_255, li_300, li_303, li_304, li_305, li_306, li_312, li_400, li_500, li_999, li_1003, li_3099, li_99999, li_100000, li_1000000, li_65, li_23, li_neg]); (try simp (disch := omega) only [f_X7_feast, f_X7_in, h7, h3, ic_le_f, ic_le_t, ic_lt_f, ic_lt_t, ic_eq_f, ic_eq_t, ic_im, ic_mi, ic_mm_t, ic_mm_f, ic_mlt, ic_mle, ic_ilem, ic_iltm, ic_mmle_t, ic_mmle_f, pu_add, pu_mul, pu_in, pu_ck, pu_let, pu_cl, pu_cpok, pu_inr, Option.bind_some, ite_true, ite_false, pu_dm, pu_dv, pu_sub, nt_dm, if_true, if_false]))
  rcases Nat.eq_zero_or_pos n with z | hn0
  · subst z
    refine ⟨nM 1000000, m, m, ?_, ?_, Rel.mk hD⟩
    · ((try simp only [f_X6_feast, li_0, li_1, li_2, li_3, li_4, li_5, li_6, li_7, li_8, li_9, li_10, li_11, li_12, li_13, li_14, li_15, li_16, li_17, li_18, li_19, li_20, li_30, li_31, li_32, li_33, li_40, li_41, li_42, li_43, li_45, li_48, li_56, li_57, li_59, li_60, li_61, li_64, li_91, li_97, li_99, li_100, li_122, li_150, li_160, li_200, li_201, li_255, li_300, li_303, li_304, li_305, li_306, li_312, li_400, li_500, li_999, li_1003, li_3099, li_99999, li_100000, li_1000000, li_65, li_23, li_neg]); (try simp (disch := omega) only [f_X6_feast, ic_le_f, ic_le_t, ic_lt_f, ic_lt_t, ic_eq_f, ic_eq_t, ic_im, ic_mi, ic_mm_t, ic_mm_f, ic_mlt, ic_mle, ic_ilem, ic_iltm, ic_mmle_t, ic_mmle_f, pu_add, pu_mul, pu_in, pu_ck, pu_let, pu_cl, pu_cpok, pu_inr, Option.bind_some, ite_true, ite_false, pu_dm, pu_dv, pu_sub, nt_dm, if_true, if_false]))
    · ((try simp only [f_X7_feast, f_X7_in, li_0, li_1, li_2, li_3, li_4, li_5, li_6, li_7, li_8, li_9, li_10, li_11, li_12, li_13, li_14, li_15, li_16, li_17, li_18, li_19, li_20, li_30, li_31, li_32, li_33, li_40, li_41, li_42, li_43, li_45, li_48, li_56, li_57, li_59, li_60, li_61, li_64, li_91, li_97, li_99, li_100, li_122, li_150, li_160, li_200, li_201, li_255, li_300, li_303, li_304, li_305, li_306, li_312, li_400, li_500, li_999, li_1003, li_3099, li_99999, li_100000, li_1000000, li_65, li_23, li_neg]); (try simp (disch := omega) only [f_X7_feast, f_X7_in, ic_le_f, ic_le_t, ic_lt_f, ic_lt_t, ic_eq_f, ic_eq_t, ic_im, ic_mi, ic_mm_t, ic_mm_f, ic_mlt, ic_mle, ic_ilem, ic_iltm, ic_mmle_t, ic_mmle_f, pu_add, pu_mul, pu_in, pu_ck, pu_let, pu_cl, pu_cpok, pu_inr, Option.bind_some, ite_true, ite_false, pu_dm, pu_dv, pu_sub, nt_dm, if_true, if_false]))
  have e1 : ∀ x, f_X7_in x (nI n) (nI 1) (nI 200) = some (nI 1) := fun x => by rw [r7in (by omega) (by omega) (by omega), if_pos ⟨hn0, hn⟩]
  rcases anyI b with q | ⟨at_, hat, rfl⟩
  · have q2 := r7in_n (m := m) (y := plI n) q (show 0 < 2 ^ 31 by omega)
    rw [li_0] at q
    have q3 : (b < nI 0) = True := eq_true q
    refine ⟨nM 1000000, m, m, ?_, ?_, Rel.mk hD⟩
    · ((try simp only [f_X6_feast, q3, li_0, li_1, li_2, li_3, li_4, li_5, li_6, li_7, li_8, li_9, li_10, li_11, li_12, li_13, li_14, li_15, li_16, li_17, li_18, li_19, li_20, li_30, li_31, li_32, li_33, li_40, li_41, li_42, li_43, li_45, li_48, li_56, li_57, li_59, li_60, li_61, li_64, li_91, li_97, li_99, li_100, li_122, li_150, li_160, li_200, li_201, li_255, li_300, li_303, li_304, li_305, li_306, li_312, li_400, li_500, li_999, li_1003, li_3099, li_99999, li_100000, li_1000000, li_65, li_23, li_neg]); (try simp (disch := omega) only [f_X6_feast, q3, ic_le_f, ic_le_t, ic_lt_f, ic_lt_t, ic_eq_f, ic_eq_t, ic_im, ic_mi, ic_mm_t, ic_mm_f, ic_mlt, ic_mle, ic_ilem, ic_iltm, ic_mmle_t, ic_mmle_f, pu_add, pu_mul, pu_in, pu_ck, pu_let, pu_cl, pu_cpok, pu_inr, Option.bind_some, ite_true, ite_false, pu_dm, pu_dv, pu_sub, nt_dm, if_true, if_false]))
    · unfold f_X7_feast
      simp only [li_0, li_1, li_2, li_3, li_4, li_5, li_6, li_7, li_8, li_9, li_10, li_11, li_12, li_13, li_14, li_15, li_16, li_17, li_18, li_19, li_20, li_30, li_31, li_32, li_33, li_40, li_41, li_42, li_43, li_45, li_48, li_56, li_57, li_59, li_60, li_61, li_64, li_91, li_97, li_99, li_100, li_122, li_150, li_160, li_200, li_201, li_255, li_300, li_303, li_304, li_305, li_306, li_312, li_400, li_500, li_999, li_1003, li_3099, li_99999, li_100000, li_1000000, li_65, li_23, li_neg]
      rw [e1, plI_m, q2]
      ((try simp only [li_0, li_1, li_2, li_3, li_4, li_5, li_6, li_7, li_8, li_9, li_10, li_11, li_12, li_13, li_14, li_15, li_16, li_17, li_18, li_19, li_20, li_30, li_31, li_32, li_33, li_40, li_41, li_42, li_43, li_45, li_48, li_56, li_57, li_59, li_60, li_61, li_64, li_91, li_97, li_99, li_100, li_122, li_150, li_160, li_200, li_201, li_255, li_300, li_303, li_304, li_305, li_306, li_312, li_400, li_500, li_999, li_1003, li_3099, li_99999, li_100000, li_1000000, li_65, li_23, li_neg]); (try simp (disch := omega) only [ic_le_f, ic_le_t, ic_lt_f, ic_lt_t, ic_eq_f, ic_eq_t, ic_im, ic_mi, ic_mm_t, ic_mm_f, ic_mlt, ic_mle, ic_ilem, ic_iltm, ic_mmle_t, ic_mmle_f, pu_add, pu_mul, pu_in, pu_ck, pu_let, pu_cl, pu_cpok, pu_inr, Option.bind_some, ite_true, ite_false, pu_dm, pu_dv, pu_sub, nt_dm, if_true, if_false]))
  rcases Nat.lt_or_ge at_ n with hlt | hge
  rotate_left
  · refine ⟨nM 1000000, m, m, ?_, ?_, Rel.mk hD⟩
    · ((try simp only [f_X6_feast, li_0, li_1, li_2, li_3, li_4, li_5, li_6, li_7, li_8, li_9, li_10, li_11, li_12, li_13, li_14, li_15, li_16, li_17, li_18, li_19, li_20, li_30, li_31, li_32, li_33, li_40, li_41, li_42, li_43, li_45, li_48, li_56, li_57, li_59, li_60, li_61, li_64, li_91, li_97, li_99, li_100, li_122, li_150, li_160, li_200, li_201, li_255, li_300, li_303, li_304, li_305, li_306, li_312, li_400, li_500, li_999, li_1003, li_3099, li_99999, li_100000, li_1000000, li_65, li_23, li_neg]); (try simp (disch := omega) only [f_X6_feast, ic_le_f, ic_le_t, ic_lt_f, ic_lt_t, ic_eq_f, ic_eq_t, ic_im, ic_mi, ic_mm_t, ic_mm_f, ic_mlt, ic_mle, ic_ilem, ic_iltm, ic_mmle_t, ic_mmle_f, pu_add, pu_mul, pu_in, pu_ck, pu_let, pu_cl, pu_cpok, pu_inr, Option.bind_some, ite_true, ite_false, pu_dm, pu_dv, pu_sub, nt_dm, if_true, if_false]))
    · unfold f_X7_feast
      simp only [li_0, li_1, li_2, li_3, li_4, li_5, li_6, li_7, li_8, li_9, li_10, li_11, li_12, li_13, li_14, li_15, li_16, li_17, li_18, li_19, li_20, li_30, li_31, li_32, li_33, li_40, li_41, li_42, li_43, li_45, li_48, li_56, li_57, li_59, li_60, li_61, li_64, li_91, li_97, li_99, li_100, li_122, li_150, li_160, li_200, li_201, li_255, li_300, li_303, li_304, li_305, li_306, li_312, li_400, li_500, li_999, li_1003, li_3099, li_99999, li_100000, li_1000000, li_65, li_23, li_neg]
      rw [e1, plI_m, r7in_p hat (by omega), if_neg (by omega)]
      ((try simp only [li_0, li_1, li_2, li_3, li_4, li_5, li_6, li_7, li_8, li_9, li_10, li_11, li_12, li_13, li_14, li_15, li_16, li_17, li_18, li_19, li_20, li_30, li_31, li_32, li_33, li_40, li_41, li_42, li_43, li_45, li_48, li_56, li_57, li_59, li_60, li_61, li_64, li_91, li_97, li_99, li_100, li_122, li_150, li_160, li_200, li_201, li_255, li_300, li_303, li_304, li_305, li_306, li_312, li_400, li_500, li_999, li_1003, li_3099, li_99999, li_100000, li_1000000, li_65, li_23, li_neg]); (try simp (disch := omega) only [ic_le_f, ic_le_t, ic_lt_f, ic_lt_t, ic_eq_f, ic_eq_t, ic_im, ic_mi, ic_mm_t, ic_mm_f, ic_mlt, ic_mle, ic_ilem, ic_iltm, ic_mmle_t, ic_mmle_f, pu_add, pu_mul, pu_in, pu_ck, pu_let, pu_cl, pu_cpok, pu_inr, Option.bind_some, ite_true, ite_false, pu_dm, pu_dv, pu_sub, nt_dm, if_true, if_false]))
  have e2 : ∀ x, f_X7_in x (nI at_) (nI 0) (plI n) = some (nI 1) := fun x => by rw [r7in_p hat (by omega), if_pos hlt]
  rcases upTo 8 9 rfl (by omega) d with ⟨g, hg, rfl⟩ | hx
  rotate_left
  · rcases hx with ⟨h1, h2, h3, h4, h5, h6⟩ | ⟨h1, h2, h3, h4, h5, h6⟩
    all_goals
      refine ⟨nM 1000000, m, m, ?_, ?_, Rel.mk hD⟩
      · unfold f_X6_feast
        rw [hgr]
        ((try simp only [h1, h2, h3, h4, h5, h6, li_0, li_1, li_2, li_3, li_4, li_5, li_6, li_7, li_8, li_9, li_10, li_11, li_12, li_13, li_14, li_15, li_16, li_17, li_18, li_19, li_20, li_30, li_31, li_32, li_33, li_40, li_41, li_42, li_43, li_45, li_48, li_56, li_57, li_59, li_60, li_61, li_64, li_91, li_97, li_99, li_100, li_122, li_150, li_160, li_200, li_201, li_255, li_300, li_303, li_304, li_305, li_306, li_312, li_400, li_500, li_999, li_1003, li_3099, li_99999, li_100000, li_1000000, li_65, li_23, li_neg]); (try simp (disch := omega) only [h1, h2, h3, h4, h5, h6, ic_le_f, ic_le_t, ic_lt_f, ic_lt_t, ic_eq_f, ic_eq_t, ic_im, ic_mi, ic_mm_t, ic_mm_f, ic_mlt, ic_mle, ic_ilem, ic_iltm, ic_mmle_t, ic_mmle_f, pu_add, pu_mul, pu_in, pu_ck, pu_let, pu_cl, pu_cpok, pu_inr, Option.bind_some, ite_true, ite_false, pu_dm, pu_dv, pu_sub, nt_dm, if_true, if_false]))
      · unfold f_X7_feast
        simp only [li_0, li_1, li_2, li_3, li_4, li_5, li_6, li_7, li_8, li_9, li_10, li_11, li_12, li_13, li_14, li_15, li_16, li_17, li_18, li_19, li_20, li_30, li_31, li_32, li_33, li_40, li_41, li_42, li_43, li_45, li_48, li_56, li_57, li_59, li_60, li_61, li_64, li_91, li_97, li_99, li_100, li_122, li_150, li_160, li_200, li_201, li_255, li_300, li_303, li_304, li_305, li_306, li_312, li_400, li_500, li_999, li_1003, li_3099, li_99999, li_100000, li_1000000, li_65, li_23, li_neg]
        rw [e1, plI_m, e2]
        ((try simp only [f_X7_in, h1, h2, h3, h4, h5, h6, li_0, li_1, li_2, li_3, li_4, li_5, li_6, li_7, li_8, li_9, li_10, li_11, li_12, li_13, li_14, li_15, li_16, li_17, li_18, li_19, li_20, li_30, li_31, li_32, li_33, li_40, li_41, li_42, li_43, li_45, li_48, li_56, li_57, li_59, li_60, li_61, li_64, li_91, li_97, li_99, li_100, li_122, li_150, li_160, li_200, li_201, li_255, li_300, li_303, li_304, li_305, li_306, li_312, li_400, li_500, li_999, li_1003, li_3099, li_99999, li_100000, li_1000000, li_65, li_23, li_neg]); (try simp (disch := omega) only [f_X7_in, h1, h2, h3, h4, h5, h6, ic_le_f, ic_le_t, ic_lt_f, ic_lt_t, ic_eq_f, ic_eq_t, ic_im, ic_mi, ic_mm_t, ic_mm_f, ic_mlt, ic_mle, ic_ilem, ic_iltm, ic_mmle_t, ic_mmle_f, pu_add, pu_mul, pu_in, pu_ck, pu_let, pu_cl, pu_cpok, pu_inr, Option.bind_some, ite_true, ite_false, pu_dm, pu_dv, pu_sub, nt_dm, if_true, if_false]))
  have e3 : ∀ x, f_X7_in x (nI g) (nI 0) (nI 8) = some (nI 1) := fun x => by rw [r7in (by omega) (by omega) (by omega), if_pos ⟨Nat.zero_le _, hg⟩]
  have hvA := thk_V (S := S) (n := at_) v
  obtain ⟨x0, a1, a2, a3⟩ := kbeg c (qF.rf kL m)
  obtain ⟨x1, b1, b2, b3⟩ := kthk (n := n) a2 v (t.2.2.2.2.1.kL a3) t.2.2.2.2.2.2 hl (by omega) a3
  obtain ⟨y0, c1, c2, c3⟩ := kbeg (c.kL b3) b3
  obtain ⟨y1, d1, d2, d3⟩ := kthk (n := at_) c2 v (t.2.2.2.2.1.kL c3) t.2.2.2.2.2.2 hl (by omega) c3
  obtain ⟨y2, k1, k2, k3⟩ := kweek (wan := g) (how := H.R 2) d2 hvA.1 (by omega) (t.2.2.2.2.1.kL d3) t.2.2.2.2.2.2 (by rw [hvA.2.2.2]; exact hl) hg hr.2.2.1 (by rw [thk_li v]; omega)
  have f2 : qF kL m y2 := d3.t2 k3 (by simp [kL])
  have hvB := wkT_V (S := S) (wan := g) (how := H.R 2) hvA.1
  obtain ⟨y3, g1, g2, g3⟩ := kweeks (n := n - at_ - 1) k2 hvB.1 (by omega) (t.2.2.2.2.1.kL f2) t.2.2.2.2.2.2 (by rw [hvB.2.1.2.2, hvA.2.2.2]; exact hl) (by omega) (by rw [hvB.2.2, thk_li v]; omega)
  have f3 : qF kL m y3 := f2.t2 g3 (by simp [kL])
  rw [feast_eq v, show at_ + 1 + (n - at_ - 1) = n by omega] at g2
  have hR2 : y1 25 2 = nI (H.R 2) := by
    have := d2.1.2.2.1 2 (by omega)
    rw [hvA.2.2.1] at this
    exact this
  -- the reference
  have r3 : MH y3 H := r.cl f3 (by decide)
  have tr := t.2.2.2.2.2.1.F f3 (by decide) (by decide)
  obtain ⟨z1, go, p1, p2, p3, p4, p5, p6⟩ := r7thk (n := n) r3 v tr t.2.2.2.2.2.2 hl (by omega) (qF.rf _ _) (o36l.rf _ _)
  have tr1 := tr.rL p5
  obtain ⟨z2, s1, s2⟩ := r7rw0 (S := S) (w := wF H at_ g) p2
  have hwf : ∀ j, (wF H at_ g j).1 ≤ 8 ∧ (wF H at_ g j).2 ≤ 3 := fun j => by
    unfold wF
    split
    · exact ⟨hg, hr.2.2.1⟩
    · exact ⟨hr.1, hr.2.2.1⟩
  obtain ⟨r1, q1, q2, q3⟩ := lp_at (f := fun s : qaM × Int32 => b_X7_feast_54 s.1 (nI n) (nI at_) (nI g) (nI (thk S n H).2.1) s.2) (fun j s => s.2 = nI j ∧ RW s.1 z1 S (wF H at_ g) H j) (fun q => q.1 = nI (seqT S (wF H at_ g) n (ty0 H)).2.1 - nI (thk S n H).2.1 ∧ RE q.2 z1 S (wF H at_ g) H n) n (s := (z2, nI 0)) ⟨rfl, s2⟩ (by omega) (by
    rintro j ⟨x, k⟩ hj ⟨hk, hx⟩
    have hk2 : k = nI j := hk
    replace hx : RW x z1 S (wF H at_ g) H j := hx
    subst hk2
    show (∃ s', b_X7_feast_54 x (nI n) (nI at_) (nI g) (nI (thk S n H).2.1) (nI j) = some (.inl s') ∧ _) ∨ (∃ q, b_X7_feast_54 x (nI n) (nI at_) (nI g) (nI (thk S n H).2.1) (nI j) = some (.inr q) ∧ _)
    have h41 : x 41 = z1 41 := hx.2.2.2.1 41 (by decide)
    have h410 : x 41 0 = nI (H.R 0) := by
      rw [h41]
      exact p2.2.2.1 0 (by omega)
    have h412 : x 41 2 = nI (H.R 2) := by
      rw [h41]
      exact p2.2.2.1 2 (by omega)
    unfold b_X7_feast_54
    rcases Nat.lt_or_ge j n with q | q
    · obtain ⟨x2, g1, g2⟩ := r7rwS hx v tr1 t.2.2.2.2.2.2 hl (by omega) (hwf j).1 (hwf j).2
      refine Or.inl ⟨(x2, nI (j + 1)), ?_, q, rfl, g2⟩
      by_cases w : j = at_
      · have hw : wF H at_ g j = (g, H.R 2) := if_pos w
        rw [hw] at g1
        rw [w] at g1 ⊢
        ((try simp only [b_X7_feast_79, li_0, li_1, li_2, li_3, li_4, li_5, li_6, li_7, li_8, li_9, li_10, li_11, li_12, li_13, li_14, li_15, li_16, li_17, li_18, li_19, li_20, li_30, li_31, li_32, li_33, li_40, li_41, li_42, li_43, li_45, li_48, li_56, li_57, li_59, li_60, li_61, li_64, li_91, li_97, li_99, li_100, li_122, li_150, li_160, li_200, li_201, li_255, li_300, li_303, li_304, li_305, li_306, li_312, li_400, li_500, li_999, li_1003, li_3099, li_99999, li_100000, li_1000000, li_65, li_23, li_neg]); (try simp (disch := omega) only [b_X7_feast_79, ic_le_f, ic_le_t, ic_lt_f, ic_lt_t, ic_eq_f, ic_eq_t, ic_im, ic_mi, ic_mm_t, ic_mm_f, ic_mlt, ic_mle, ic_ilem, ic_iltm, ic_mmle_t, ic_mmle_f, pu_add, pu_mul, pu_in, pu_ck, pu_let, pu_cl, pu_cpok, pu_inr, Option.bind_some, ite_true, ite_false, pu_dm, pu_dv, pu_sub, nt_dm, if_true, if_false]))
        rw [h412, g1]
        ((try simp only [li_0, li_1, li_2, li_3, li_4, li_5, li_6, li_7, li_8, li_9, li_10, li_11, li_12, li_13, li_14, li_15, li_16, li_17, li_18, li_19, li_20, li_30, li_31, li_32, li_33, li_40, li_41, li_42, li_43, li_45, li_48, li_56, li_57, li_59, li_60, li_61, li_64, li_91, li_97, li_99, li_100, li_122, li_150, li_160, li_200, li_201, li_255, li_300, li_303, li_304, li_305, li_306, li_312, li_400, li_500, li_999, li_1003, li_3099, li_99999, li_100000, li_1000000, li_65, li_23, li_neg]); (try simp (disch := omega) only [ic_le_f, ic_le_t, ic_lt_f, ic_lt_t, ic_eq_f, ic_eq_t, ic_im, ic_mi, ic_mm_t, ic_mm_f, ic_mlt, ic_mle, ic_ilem, ic_iltm, ic_mmle_t, ic_mmle_f, pu_add, pu_mul, pu_in, pu_ck, pu_let, pu_cl, pu_cpok, pu_inr, Option.bind_some, ite_true, ite_false, pu_dm, pu_dv, pu_sub, nt_dm, if_true, if_false]))
      · have hw : wF H at_ g j = (H.R 0, H.R 2) := if_neg w
        rw [hw] at g1
        ((try simp only [b_X7_feast_79, li_0, li_1, li_2, li_3, li_4, li_5, li_6, li_7, li_8, li_9, li_10, li_11, li_12, li_13, li_14, li_15, li_16, li_17, li_18, li_19, li_20, li_30, li_31, li_32, li_33, li_40, li_41, li_42, li_43, li_45, li_48, li_56, li_57, li_59, li_60, li_61, li_64, li_91, li_97, li_99, li_100, li_122, li_150, li_160, li_200, li_201, li_255, li_300, li_303, li_304, li_305, li_306, li_312, li_400, li_500, li_999, li_1003, li_3099, li_99999, li_100000, li_1000000, li_65, li_23, li_neg]); (try simp (disch := omega) only [b_X7_feast_79, ic_le_f, ic_le_t, ic_lt_f, ic_lt_t, ic_eq_f, ic_eq_t, ic_im, ic_mi, ic_mm_t, ic_mm_f, ic_mlt, ic_mle, ic_ilem, ic_iltm, ic_mmle_t, ic_mmle_f, pu_add, pu_mul, pu_in, pu_ck, pu_let, pu_cl, pu_cpok, pu_inr, Option.bind_some, ite_true, ite_false, pu_dm, pu_dv, pu_sub, nt_dm, if_true, if_false]))
        rw [h410, h412, g1]
        ((try simp only [li_0, li_1, li_2, li_3, li_4, li_5, li_6, li_7, li_8, li_9, li_10, li_11, li_12, li_13, li_14, li_15, li_16, li_17, li_18, li_19, li_20, li_30, li_31, li_32, li_33, li_40, li_41, li_42, li_43, li_45, li_48, li_56, li_57, li_59, li_60, li_61, li_64, li_91, li_97, li_99, li_100, li_122, li_150, li_160, li_200, li_201, li_255, li_300, li_303, li_304, li_305, li_306, li_312, li_400, li_500, li_999, li_1003, li_3099, li_99999, li_100000, li_1000000, li_65, li_23, li_neg]); (try simp (disch := omega) only [ic_le_f, ic_le_t, ic_lt_f, ic_lt_t, ic_eq_f, ic_eq_t, ic_im, ic_mi, ic_mm_t, ic_mm_f, ic_mlt, ic_mle, ic_ilem, ic_iltm, ic_mmle_t, ic_mmle_f, pu_add, pu_mul, pu_in, pu_ck, pu_let, pu_cl, pu_cpok, pu_inr, Option.bind_some, ite_true, ite_false, pu_dm, pu_dv, pu_sub, nt_dm, if_true, if_false]))
    · have : j = n := by omega
      subst this
      obtain ⟨x2, g1, g2⟩ := r7rwE hx v p2
      have g3 := g2.2.1
      obtain ⟨go2, g4, _⟩ := g3
      refine Or.inr ⟨(nI (seqT S (wF H at_ g) j (ty0 H)).2.1 - nI (thk S j H).2.1, x2), ?_, rfl, g2⟩
      rw [ic_le_t (by omega) (by omega)]
      unfold b_X7_feast_94
      rw [g1, Option.bind_some, g4.1]
      rfl)
  obtain ⟨q4, q5, q6, q7, q8⟩ := q3
  refine ⟨nI (seqT S (wF H at_ g) n (ty0 H)).2.1 - nI (thk S n H).2.1, y3, r1.2, ?_, ?_, Rel.thk hD f3 (p5.t2 q7 (by simp [rL])) (p6.tr q8 (fun _ z => z) (fun _ z => z)) q4⟩
  · unfold f_X6_feast f_X6_thinks
    rw [hgr]
    simp only [li_0, li_1, li_2, li_3, li_4, li_5, li_6, li_7, li_8, li_9, li_10, li_11, li_12, li_13, li_14, li_15, li_16, li_17, li_18, li_19, li_20, li_30, li_31, li_32, li_33, li_40, li_41, li_42, li_43, li_45, li_48, li_56, li_57, li_59, li_60, li_61, li_64, li_91, li_97, li_99, li_100, li_122, li_150, li_160, li_200, li_201, li_255, li_300, li_303, li_304, li_305, li_306, li_312, li_400, li_500, li_999, li_1003, li_3099, li_99999, li_100000, li_1000000, li_65, li_23, li_neg]
    rw [ic_lt_f (by omega) (by omega), ic_lt_f (by omega) (by omega), ic_lt_f (by omega) (by omega), ic_le_f (by omega) (by omega), ic_lt_f (by omega) (by omega), ic_le_t (by omega) (by omega), a1, Option.bind_some, b1, Option.bind_some, Option.bind_some, pu_let, c1, Option.bind_some, d1, Option.bind_some, hR2, k1, Option.bind_some, pu_sub (by omega), pu_sub (by omega)]
    show Option.bind (f_X0_livesWeeks 20 y2 (nI (n - at_ - 1))) _ = _
    rw [g1, Option.bind_some, g2.2.1, b2.2.1]
  · unfold f_X7_feast
    simp only [li_0, li_1, li_2, li_3, li_4, li_5, li_6, li_7, li_8, li_9, li_10, li_11, li_12, li_13, li_14, li_15, li_16, li_17, li_18, li_19, li_20, li_30, li_31, li_32, li_33, li_40, li_41, li_42, li_43, li_45, li_48, li_56, li_57, li_59, li_60, li_61, li_64, li_91, li_97, li_99, li_100, li_122, li_150, li_160, li_200, li_201, li_255, li_300, li_303, li_304, li_305, li_306, li_312, li_400, li_500, li_999, li_1003, li_3099, li_99999, li_100000, li_1000000, li_65, li_23, li_neg]
    rw [e1, plI_m, e2, e3]
    ((try simp only [li_0, li_1, li_2, li_3, li_4, li_5, li_6, li_7, li_8, li_9, li_10, li_11, li_12, li_13, li_14, li_15, li_16, li_17, li_18, li_19, li_20, li_30, li_31, li_32, li_33, li_40, li_41, li_42, li_43, li_45, li_48, li_56, li_57, li_59, li_60, li_61, li_64, li_91, li_97, li_99, li_100, li_122, li_150, li_160, li_200, li_201, li_255, li_300, li_303, li_304, li_305, li_306, li_312, li_400, li_500, li_999, li_1003, li_3099, li_99999, li_100000, li_1000000, li_65, li_23, li_neg]); (try simp (disch := omega) only [ic_le_f, ic_le_t, ic_lt_f, ic_lt_t, ic_eq_f, ic_eq_t, ic_im, ic_mi, ic_mm_t, ic_mm_f, ic_mlt, ic_mle, ic_ilem, ic_iltm, ic_mmle_t, ic_mmle_f, pu_add, pu_mul, pu_in, pu_ck, pu_let, pu_cl, pu_cpok, pu_inr, Option.bind_some, ite_true, ite_false, pu_dm, pu_dv, pu_sub, nt_dm, if_true, if_false]))
    rw [p1]
    ((try simp only [li_0, li_1, li_2, li_3, li_4, li_5, li_6, li_7, li_8, li_9, li_10, li_11, li_12, li_13, li_14, li_15, li_16, li_17, li_18, li_19, li_20, li_30, li_31, li_32, li_33, li_40, li_41, li_42, li_43, li_45, li_48, li_56, li_57, li_59, li_60, li_61, li_64, li_91, li_97, li_99, li_100, li_122, li_150, li_160, li_200, li_201, li_255, li_300, li_303, li_304, li_305, li_306, li_312, li_400, li_500, li_999, li_1003, li_3099, li_99999, li_100000, li_1000000, li_65, li_23, li_neg]); (try simp (disch := omega) only [ic_le_f, ic_le_t, ic_lt_f, ic_lt_t, ic_eq_f, ic_eq_t, ic_im, ic_mi, ic_mm_t, ic_mm_f, ic_mlt, ic_mle, ic_ilem, ic_iltm, ic_mmle_t, ic_mmle_f, pu_add, pu_mul, pu_in, pu_ck, pu_let, pu_cl, pu_cpok, pu_inr, Option.bind_some, ite_true, ite_false, pu_dm, pu_dv, pu_sub, nt_dm, if_true, if_false]))
    rw [s1]
    ((try simp only [li_0, li_1, li_2, li_3, li_4, li_5, li_6, li_7, li_8, li_9, li_10, li_11, li_12, li_13, li_14, li_15, li_16, li_17, li_18, li_19, li_20, li_30, li_31, li_32, li_33, li_40, li_41, li_42, li_43, li_45, li_48, li_56, li_57, li_59, li_60, li_61, li_64, li_91, li_97, li_99, li_100, li_122, li_150, li_160, li_200, li_201, li_255, li_300, li_303, li_304, li_305, li_306, li_312, li_400, li_500, li_999, li_1003, li_3099, li_99999, li_100000, li_1000000, li_65, li_23, li_neg]); (try simp (disch := omega) only [ic_le_f, ic_le_t, ic_lt_f, ic_lt_t, ic_eq_f, ic_eq_t, ic_im, ic_mi, ic_mm_t, ic_mm_f, ic_mlt, ic_mle, ic_ilem, ic_iltm, ic_mmle_t, ic_mmle_f, pu_add, pu_mul, pu_in, pu_ck, pu_let, pu_cl, pu_cpok, pu_inr, Option.bind_some, ite_true, ite_false, pu_dm, pu_dv, pu_sub, nt_dm, if_true, if_false]))
    rw [p3.1, lp_X7_feast_54, q1, ← q2]
-- which
def whM (L : Nat → Nat) (may : Nat → Bool) (z : Nat) : Nat → Nat
  | 0 => z
  | i + 1 => if may i = true ∧ whM L may z i < L i then L i else whM L may z i
def whB (L : Nat → Nat) (may : Nat → Bool) (z : Nat) : Nat → Nat
  | 0 => 0
  | i + 1 => if may i = true ∧ whM L may z i < L i then i + 1 else whB L may z i
theorem whM_s (L : Nat → Nat) (may : Nat → Bool) (z i : Nat) : whM L may z (i + 1) = if may i = true ∧ whM L may z i < L i then L i else whM L may z i := rfl
theorem whB_s (L : Nat → Nat) (may : Nat → Bool) (z i : Nat) : whB L may z (i + 1) = if may i = true ∧ whM L may z i < L i then i + 1 else whB L may z i := rfl
theorem whM_le {L : Nat → Nat} {may : Nat → Bool} {z : Nat} (hz : z ≤ 8) (hL : ∀ i, L i ≤ 8) (i : Nat) : whM L may z i ≤ 8 := by
  induction i with
  | zero => exact hz
  | succ i ih =>
    rw [whM_s]
    split
    · exact hL i
    · exact ih
/-- turned, and as it was again -/
theorem MH.unturn {m : qaM} {H : HS} {i : Nat} (c : MH m (turnA H i)) (h5 : H.A i 5 = 0) : MH (qa_st (qa_st m 39 (6 * i) (nI (H.A i 2))) 39 (6 * i + 3) (nI 0)) H := by
  have c1 : MH (qa_st m 39 (6 * i) (nI (H.A i 2))) _ := r7set c (i := i) (k := 0) (v := H.A i 2) (by omega) (by omega)
  have c2 := r7set c1 (i := i) (k := 3) (v := 0) (by omega) (by omega)
  refine c2.cg rfl ?_ rfl (fun _ _ => rfl) rfl rfl
  funext j
  by_cases q : j = i
  · rw [q, setA_s, setA_s]
    unfold turnA
    rw [setA_s]
    funext k
    by_cases k5 : k = 5
    · rw [k5, aU_s, h5]
    · rw [aU_n k5]
      by_cases k2 : k = 2
      · rw [k2, aU_s]
      · rw [aU_n k2, aU_n k5, aU_n k2]
  · rw [setA_n q, setA_n q]
    unfold turnA
    rw [setA_n q]
theorem qp_which : qaP_which Rel := by
  intro m a h
  obtain ⟨H, N, S, hD⟩ := h
  have ⟨c, r, v, hl, hw, t, _, _, _, nt⟩ := hD
  have n8 := v.n8
  rcases upTo 200 201 rfl (by omega) a with ⟨n, hn, rfl⟩ | hx
  rotate_left
  · rcases hx with ⟨h1, h2, h3, h4, h5, h6⟩ | ⟨h1, h2, h3, h4, h5, h6⟩
    all_goals
      refine ⟨nM 2, m, m, ?_, ?_, Rel.mk hD⟩
      · ((try simp only [f_X6_which, f_X6_isWeeks, f_X6_isSheet, f_X6_isSeed, f_X6_isByte, h1, h2, h3, h4, h5, h6, li_0, li_1, li_2, li_3, li_4, li_5, li_6, li_7, li_8, li_9, li_10, li_11, li_12, li_13, li_14, li_15, li_16, li_17, li_18, li_19, li_20, li_30, li_31, li_32, li_33, li_40, li_41, li_42, li_43, li_45, li_48, li_56, li_57, li_59, li_60, li_61, li_64, li_91, li_97, li_99, li_100, li_122, li_150, li_160, li_200, li_201, li_255, li_300, li_303, li_304, li_305, li_306, li_312, li_400, li_500, li_999, li_1003, li_3099, li_99999, li_100000, li_1000000, li_65, li_23, li_neg]); (try simp (disch := omega) only [f_X6_which, f_X6_isWeeks, f_X6_isSheet, f_X6_isSeed, f_X6_isByte, h1, h2, h3, h4, h5, h6, ic_le_f, ic_le_t, ic_lt_f, ic_lt_t, ic_eq_f, ic_eq_t, ic_im, ic_mi, ic_mm_t, ic_mm_f, ic_mlt, ic_mle, ic_ilem, ic_iltm, ic_mmle_t, ic_mmle_f, pu_add, pu_mul, pu_in, pu_ck, pu_let, pu_cl, pu_cpok, pu_inr, Option.bind_some, ite_true, ite_false, pu_dm, pu_dv, pu_sub, nt_dm, if_true, if_false]))
      · ((try simp only [f_X7_which, f_X7_in, f_X7_areWeeks, f_X7_isByte, qa_bl0, qa_bl1, h1, h2, h3, h4, h5, h6, li_0, li_1, li_2, li_3, li_4, li_5, li_6, li_7, li_8, li_9, li_10, li_11, li_12, li_13, li_14, li_15, li_16, li_17, li_18, li_19, li_20, li_30, li_31, li_32, li_33, li_40, li_41, li_42, li_43, li_45, li_48, li_56, li_57, li_59, li_60, li_61, li_64, li_91, li_97, li_99, li_100, li_122, li_150, li_160, li_200, li_201, li_255, li_300, li_303, li_304, li_305, li_306, li_312, li_400, li_500, li_999, li_1003, li_3099, li_99999, li_100000, li_1000000, li_65, li_23, li_neg]); (try simp (disch := omega) only [f_X7_which, f_X7_in, f_X7_areWeeks, f_X7_isByte, qa_bl0, qa_bl1, h1, h2, h3, h4, h5, h6, ic_le_f, ic_le_t, ic_lt_f, ic_lt_t, ic_eq_f, ic_eq_t, ic_im, ic_mi, ic_mm_t, ic_mm_f, ic_mlt, ic_mle, ic_ilem, ic_iltm, ic_mmle_t, ic_mmle_f, pu_add, pu_mul, pu_in, pu_ck, pu_let, pu_cl, pu_cpok, pu_inr, Option.bind_some, ite_true, ite_false, pu_dm, pu_dv, pu_sub, nt_dm, if_true, if_false]))
  obtain ⟨L, hL⟩ : ∃ L : Nat → Nat, ∀ i, L i = lfH (thk S n (turnA H i)).1.A H.n := ⟨_, fun _ => rfl⟩
  have hL8 : ∀ i, L i ≤ 8 := fun i => by
    rw [hL]
    exact Nat.le_trans (lfH_le _ _) n8
  obtain ⟨z, hz⟩ : ∃ z, z = lfH (thk S n H).1.A H.n := ⟨_, rfl⟩
  have hz8 : z ≤ 8 := by
    rw [hz]
    exact Nat.le_trans (lfH_le _ _) n8
  have hM8 := whM_le (may := mayA H) hz8 hL8
  have hv := thk_V (S := S) (n := n) v
  obtain ⟨x0, a1, a2, a3⟩ := kbeg c (qF.rf kL m)
  obtain ⟨x1, b1, b2, b3⟩ := kthk (n := n) a2 v (t.2.2.2.2.1.kL a3) t.2.2.2.2.2.2 hl (by omega) a3
  have hlf : f_X1_left 21 x1 = some (nI z) := by
    have := kleft (h := 20) b2.1 hv.1.1
    rw [hv.2.1, ← hz] at this
    exact this
  obtain ⟨r1, c1, c2, c3⟩ := lp_at (f := fun s : qaM × Int32 × Int32 × Int32 => b_X6_which_31 s.1 (nI n) s.2.1 s.2.2.1 s.2.2.2) (fun j s => s.2 = (nI (whM L (mayA H) z j), plI (whB L (mayA H) z j), nI j) ∧ qF kL m s.1) (fun q => q.1 = plI (whB L (mayA H) z H.n) ∧ qF kL m q.2) H.n (s := (x1, nI z, nM 1, nI 0)) ⟨rfl, b3⟩ (by omega) (by
    rintro j ⟨x, k⟩ hj ⟨hk, hf⟩
    have hk2 : k = (nI (whM L (mayA H) z j), plI (whB L (mayA H) z j), nI j) := hk
    replace hf : qF kL m x := hf
    subst hk2
    show (∃ s', b_X6_which_31 x (nI n) (nI (whM L (mayA H) z j)) (plI (whB L (mayA H) z j)) (nI j) = some (.inl s') ∧ _) ∨ (∃ q, b_X6_which_31 x (nI n) (nI (whM L (mayA H) z j)) (plI (whB L (mayA H) z j)) (nI j) = some (.inr q) ∧ _)
    have cx := c.kL hf
    have h9 : x 9 0 = nI H.n := cx.1.1
    unfold b_X6_which_31
    rw [h9]
    rcases Nat.lt_or_ge j H.n with q | q
    · have hct := kcanTurn (h := 8) (i := j) cx v (by omega)
      by_cases y : mayA H j = true
      · rw [if_pos y] at hct
        have hv2 := thk_V (S := S) (n := n) (turnA_V v q)
        obtain ⟨y0, d1, d2, d3⟩ := kbeg cx hf
        obtain ⟨y1, e1, e2, e3⟩ := kturnsOver (i := j) d2.1 v (by omega)
        have f4 : qF kL m y1 := d3.t2 e3 (by simp [kL])
        obtain ⟨y2, g1, g2, g3⟩ := kthk (n := n) (K := turnA H j) ⟨e2, d2.2.F e3 (by decide)⟩ (turnA_V v q) (t.2.2.2.2.1.kL f4) t.2.2.2.2.2.2 hl (by omega) f4
        have hlf2 : f_X1_left 21 y2 = some (nI (L j)) := by
          have := kleft (h := 20) g2.1 hv2.1.1
          rw [hv2.2.1] at this
          rw [hL]
          exact this
        have hM := hM8 j
        have hLj := hL8 j
        refine Or.inl ⟨(y2, nI (whM L (mayA H) z (j + 1)), plI (whB L (mayA H) z (j + 1)), nI (j + 1)), ?_, q, rfl, g3⟩
        simp only [li_0, li_1, li_2, li_3, li_4, li_5, li_6, li_7, li_8, li_9, li_10, li_11, li_12, li_13, li_14, li_15, li_16, li_17, li_18, li_19, li_20, li_30, li_31, li_32, li_33, li_40, li_41, li_42, li_43, li_45, li_48, li_56, li_57, li_59, li_60, li_61, li_64, li_91, li_97, li_99, li_100, li_122, li_150, li_160, li_200, li_201, li_255, li_300, li_303, li_304, li_305, li_306, li_312, li_400, li_500, li_999, li_1003, li_3099, li_99999, li_100000, li_1000000, li_65, li_23, li_neg]
        rw [ic_le_f q (by omega), hct, Option.bind_some, if_neg (show ¬ nI 1 = nI 0 by decide), d1, Option.bind_some, e1, Option.bind_some, g1, Option.bind_some, hlf2, Option.bind_some]
        by_cases w : whM L (mayA H) z j < L j
        · have eM : whM L (mayA H) z (j + 1) = L j := by rw [whM_s, if_pos ⟨y, w⟩]
          have eB : whB L (mayA H) z (j + 1) = j + 1 := by rw [whB_s, if_pos ⟨y, w⟩]
          rw [eM, eB, plI_s]
          ((try simp only [b_X6_which_114, li_0, li_1, li_2, li_3, li_4, li_5, li_6, li_7, li_8, li_9, li_10, li_11, li_12, li_13, li_14, li_15, li_16, li_17, li_18, li_19, li_20, li_30, li_31, li_32, li_33, li_40, li_41, li_42, li_43, li_45, li_48, li_56, li_57, li_59, li_60, li_61, li_64, li_91, li_97, li_99, li_100, li_122, li_150, li_160, li_200, li_201, li_255, li_300, li_303, li_304, li_305, li_306, li_312, li_400, li_500, li_999, li_1003, li_3099, li_99999, li_100000, li_1000000, li_65, li_23, li_neg]); (try simp (disch := omega) only [b_X6_which_114, ic_le_f, ic_le_t, ic_lt_f, ic_lt_t, ic_eq_f, ic_eq_t, ic_im, ic_mi, ic_mm_t, ic_mm_f, ic_mlt, ic_mle, ic_ilem, ic_iltm, ic_mmle_t, ic_mmle_f, pu_add, pu_mul, pu_in, pu_ck, pu_let, pu_cl, pu_cpok, pu_inr, Option.bind_some, ite_true, ite_false, pu_dm, pu_dv, pu_sub, nt_dm, if_true, if_false]))
        · have eM : whM L (mayA H) z (j + 1) = whM L (mayA H) z j := by rw [whM_s, if_neg (fun u => w u.2)]
          have eB : whB L (mayA H) z (j + 1) = whB L (mayA H) z j := by rw [whB_s, if_neg (fun u => w u.2)]
          rw [eM, eB]
          ((try simp only [b_X6_which_114, li_0, li_1, li_2, li_3, li_4, li_5, li_6, li_7, li_8, li_9, li_10, li_11, li_12, li_13, li_14, li_15, li_16, li_17, li_18, li_19, li_20, li_30, li_31, li_32, li_33, li_40, li_41, li_42, li_43, li_45, li_48, li_56, li_57, li_59, li_60, li_61, li_64, li_91, li_97, li_99, li_100, li_122, li_150, li_160, li_200, li_201, li_255, li_300, li_303, li_304, li_305, li_306, li_312, li_400, li_500, li_999, li_1003, li_3099, li_99999, li_100000, li_1000000, li_65, li_23, li_neg]); (try simp (disch := omega) only [b_X6_which_114, ic_le_f, ic_le_t, ic_lt_f, ic_lt_t, ic_eq_f, ic_eq_t, ic_im, ic_mi, ic_mm_t, ic_mm_f, ic_mlt, ic_mle, ic_ilem, ic_iltm, ic_mmle_t, ic_mmle_f, pu_add, pu_mul, pu_in, pu_ck, pu_let, pu_cl, pu_cpok, pu_inr, Option.bind_some, ite_true, ite_false, pu_dm, pu_dv, pu_sub, nt_dm, if_true, if_false]))
      · rw [if_neg y] at hct
        refine Or.inl ⟨(x, nI (whM L (mayA H) z (j + 1)), plI (whB L (mayA H) z (j + 1)), nI (j + 1)), ?_, q, rfl, hf⟩
        simp only [li_0, li_1, li_2, li_3, li_4, li_5, li_6, li_7, li_8, li_9, li_10, li_11, li_12, li_13, li_14, li_15, li_16, li_17, li_18, li_19, li_20, li_30, li_31, li_32, li_33, li_40, li_41, li_42, li_43, li_45, li_48, li_56, li_57, li_59, li_60, li_61, li_64, li_91, li_97, li_99, li_100, li_122, li_150, li_160, li_200, li_201, li_255, li_300, li_303, li_304, li_305, li_306, li_312, li_400, li_500, li_999, li_1003, li_3099, li_99999, li_100000, li_1000000, li_65, li_23, li_neg]
        rw [ic_le_f q (by omega), hct, Option.bind_some, if_pos rfl, whM_s, whB_s, if_neg (fun u => y u.1), if_neg (fun u => y u.1)]
        ((try simp only [b_X6_which_114, li_0, li_1, li_2, li_3, li_4, li_5, li_6, li_7, li_8, li_9, li_10, li_11, li_12, li_13, li_14, li_15, li_16, li_17, li_18, li_19, li_20, li_30, li_31, li_32, li_33, li_40, li_41, li_42, li_43, li_45, li_48, li_56, li_57, li_59, li_60, li_61, li_64, li_91, li_97, li_99, li_100, li_122, li_150, li_160, li_200, li_201, li_255, li_300, li_303, li_304, li_305, li_306, li_312, li_400, li_500, li_999, li_1003, li_3099, li_99999, li_100000, li_1000000, li_65, li_23, li_neg]); (try simp (disch := omega) only [b_X6_which_114, ic_le_f, ic_le_t, ic_lt_f, ic_lt_t, ic_eq_f, ic_eq_t, ic_im, ic_mi, ic_mm_t, ic_mm_f, ic_mlt, ic_mle, ic_ilem, ic_iltm, ic_mmle_t, ic_mmle_f, pu_add, pu_mul, pu_in, pu_ck, pu_let, pu_cl, pu_cpok, pu_inr, Option.bind_some, ite_true, ite_false, pu_dm, pu_dv, pu_sub, nt_dm, if_true, if_false]))
    · have : j = H.n := by omega
      subst this
      refine Or.inr ⟨(plI (whB L (mayA H) z H.n), x), ?_, rfl, hf⟩
      ((try simp only [li_0, li_1, li_2, li_3, li_4, li_5, li_6, li_7, li_8, li_9, li_10, li_11, li_12, li_13, li_14, li_15, li_16, li_17, li_18, li_19, li_20, li_30, li_31, li_32, li_33, li_40, li_41, li_42, li_43, li_45, li_48, li_56, li_57, li_59, li_60, li_61, li_64, li_91, li_97, li_99, li_100, li_122, li_150, li_160, li_200, li_201, li_255, li_300, li_303, li_304, li_305, li_306, li_312, li_400, li_500, li_999, li_1003, li_3099, li_99999, li_100000, li_1000000, li_65, li_23, li_neg]); (try simp (disch := omega) only [ic_le_f, ic_le_t, ic_lt_f, ic_lt_t, ic_eq_f, ic_eq_t, ic_im, ic_mi, ic_mm_t, ic_mm_f, ic_mlt, ic_mle, ic_ilem, ic_iltm, ic_mmle_t, ic_mmle_f, pu_add, pu_mul, pu_in, pu_ck, pu_let, pu_cl, pu_cpok, pu_inr, Option.bind_some, ite_true, ite_false, pu_dm, pu_dv, pu_sub, nt_dm, if_true, if_false])))
  have r1m : MH r1.2 H := r.cl c3 (by decide)
  have tr := t.2.2.2.2.2.1.F c3 (by decide) (by decide)
  obtain ⟨u1, go, d1, d2, d3, d4, d5, d6⟩ := r7thk (n := n) r1m v tr t.2.2.2.2.2.2 hl (by omega) (qF.rf _ _) (o36l.rf _ _)
  have hlm : f_X7_leftMany u1 = some (nI z) := by
    rw [hz]
    exact r7leftMany d2.2.2.2.1 n8 d4 hv.1.1.av
  obtain ⟨r2, e1, e2, e3, e4, e5⟩ := lp_at (f := fun s : qaM × Int32 × Int32 × Int32 => b_X7_which_25 s.1 (nI n) s.2.1 s.2.2.1 s.2.2.2) (fun j s => s.2 = (plI (whB L (mayA H) z j), nI (whM L (mayA H) z j), nI j) ∧ MH s.1 H ∧ qF rL r1.2 s.1 ∧ o36l oL r1.2 s.1) (fun q => q.1 = plI (whB L (mayA H) z H.n) ∧ MH q.2 H ∧ qF rL r1.2 q.2 ∧ o36l oL r1.2 q.2) H.n (s := (u1, nM 1, nI z, nI 0)) ⟨rfl, d2, d5, d6⟩ (by omega) (by
    rintro j ⟨x, k⟩ hj ⟨hk, hm, hf, ho⟩
    have hk2 : k = (plI (whB L (mayA H) z j), nI (whM L (mayA H) z j), nI j) := hk
    replace hf : qF rL r1.2 x := hf
    replace ho : o36l oL r1.2 x := ho
    replace hm : MH x H := hm
    subst hk2
    show (∃ s', b_X7_which_25 x (nI n) (plI (whB L (mayA H) z j)) (nI (whM L (mayA H) z j)) (nI j) = some (.inl s') ∧ _) ∨ (∃ q, b_X7_which_25 x (nI n) (plI (whB L (mayA H) z j)) (nI (whM L (mayA H) z j)) (nI j) = some (.inr q) ∧ _)
    have h0 : x 36 0 = nI H.n := hm.2.2.2.1
    unfold b_X7_which_25
    rw [h0]
    rcases Nat.lt_or_ge j H.n with q | q
    · have hct := r7mayTurn (i := j) hm v q
      by_cases y : mayA H j = true
      · rw [if_pos y] at hct
        have hv2 := thk_V (S := S) (n := n) (turnA_V v q)
        have hrow : x 39 (6 * j) = nI (H.A j 2) := r7row hm q (k := 0) (by omega) (by omega)
        obtain ⟨y1, g1, g2, g3⟩ := r7turns (i := j) hm v q
        have tr1 : TXr y1 N S := (tr.rL hf).F g3 (by simp) (by simp)
        obtain ⟨y2, go2, k1, k2, k3, k4, k5, k6⟩ := r7thk (n := n) (K := turnA H j) g2 (turnA_V v q) tr1 t.2.2.2.2.2.2 hl (by omega) (hf.t2 g3 (by simp [rL])) (ho.tr (o36l.q (k := []) g3 (by simp)) (fun _ z => z) (by simp))
        have k7 := k2.unturn (mayA_o y).1
        have f8 : qF [39] y2 (qa_st (qa_st y2 39 (6 * j) (nI (H.A j 2))) 39 (6 * j + 3) (nI 0)) := ((qF.rf _ y2).stl (by simp)).stl (by simp)
        have hlm2 : f_X7_leftMany (qa_st (qa_st y2 39 (6 * j) (nI (H.A j 2))) 39 (6 * j + 3) (nI 0)) = some (nI (L j)) := by
          rw [hL]
          refine r7leftMany k7.2.2.2.1 n8 (fun a b ha hb h4 => ?_) hv2.1.1.av
          rw [f8 59 (by decide)]
          exact k4 a b ha hb h4
        have hM := hM8 j
        have hLj := hL8 j
        refine Or.inl ⟨(qa_st (qa_st y2 39 (6 * j) (nI (H.A j 2))) 39 (6 * j + 3) (nI 0), plI (whB L (mayA H) z (j + 1)), nI (whM L (mayA H) z (j + 1)), nI (j + 1)), ?_, q, rfl, k7, k5.t2 f8 (by simp [rL]), k6.tr (o36l.q (k := []) f8 (by simp)) (fun _ z => z) (by simp)⟩
        simp only [li_0, li_1, li_2, li_3, li_4, li_5, li_6, li_7, li_8, li_9, li_10, li_11, li_12, li_13, li_14, li_15, li_16, li_17, li_18, li_19, li_20, li_30, li_31, li_32, li_33, li_40, li_41, li_42, li_43, li_45, li_48, li_56, li_57, li_59, li_60, li_61, li_64, li_91, li_97, li_99, li_100, li_122, li_150, li_160, li_200, li_201, li_255, li_300, li_303, li_304, li_305, li_306, li_312, li_400, li_500, li_999, li_1003, li_3099, li_99999, li_100000, li_1000000, li_65, li_23, li_neg]
        rw [ic_le_f q (by omega), hct, Option.bind_some, if_neg (show ¬ nI 1 = nI 0 by decide), pu_mul, pu_in (by omega) (by omega), pu_ck, pu_cl (by omega), hrow, pu_let, g1, Option.bind_some, k1, Option.bind_some, pu_ck, pu_let, pu_add, pu_in (by omega) (by omega), pu_ck, pu_cl (by omega), pu_let, hlm2, Option.bind_some]
        by_cases w : whM L (mayA H) z j < L j
        · have eM : whM L (mayA H) z (j + 1) = L j := by rw [whM_s, if_pos ⟨y, w⟩]
          have eB : whB L (mayA H) z (j + 1) = j + 1 := by rw [whB_s, if_pos ⟨y, w⟩]
          rw [eM, eB, plI_s]
          ((try simp only [b_X7_which_105, hlm2, b_X7_which_122, b_X7_which_123, li_0, li_1, li_2, li_3, li_4, li_5, li_6, li_7, li_8, li_9, li_10, li_11, li_12, li_13, li_14, li_15, li_16, li_17, li_18, li_19, li_20, li_30, li_31, li_32, li_33, li_40, li_41, li_42, li_43, li_45, li_48, li_56, li_57, li_59, li_60, li_61, li_64, li_91, li_97, li_99, li_100, li_122, li_150, li_160, li_200, li_201, li_255, li_300, li_303, li_304, li_305, li_306, li_312, li_400, li_500, li_999, li_1003, li_3099, li_99999, li_100000, li_1000000, li_65, li_23, li_neg]); (try simp (disch := omega) only [b_X7_which_105, hlm2, b_X7_which_122, b_X7_which_123, ic_le_f, ic_le_t, ic_lt_f, ic_lt_t, ic_eq_f, ic_eq_t, ic_im, ic_mi, ic_mm_t, ic_mm_f, ic_mlt, ic_mle, ic_ilem, ic_iltm, ic_mmle_t, ic_mmle_f, pu_add, pu_mul, pu_in, pu_ck, pu_let, pu_cl, pu_cpok, pu_inr, Option.bind_some, ite_true, ite_false, pu_dm, pu_dv, pu_sub, nt_dm, if_true, if_false]))
        · have eM : whM L (mayA H) z (j + 1) = whM L (mayA H) z j := by rw [whM_s, if_neg (fun u => w u.2)]
          have eB : whB L (mayA H) z (j + 1) = whB L (mayA H) z j := by rw [whB_s, if_neg (fun u => w u.2)]
          rw [eM, eB]
          ((try simp only [b_X7_which_105, hlm2, b_X7_which_122, b_X7_which_123, li_0, li_1, li_2, li_3, li_4, li_5, li_6, li_7, li_8, li_9, li_10, li_11, li_12, li_13, li_14, li_15, li_16, li_17, li_18, li_19, li_20, li_30, li_31, li_32, li_33, li_40, li_41, li_42, li_43, li_45, li_48, li_56, li_57, li_59, li_60, li_61, li_64, li_91, li_97, li_99, li_100, li_122, li_150, li_160, li_200, li_201, li_255, li_300, li_303, li_304, li_305, li_306, li_312, li_400, li_500, li_999, li_1003, li_3099, li_99999, li_100000, li_1000000, li_65, li_23, li_neg]); (try simp (disch := omega) only [b_X7_which_105, hlm2, b_X7_which_122, b_X7_which_123, ic_le_f, ic_le_t, ic_lt_f, ic_lt_t, ic_eq_f, ic_eq_t, ic_im, ic_mi, ic_mm_t, ic_mm_f, ic_mlt, ic_mle, ic_ilem, ic_iltm, ic_mmle_t, ic_mmle_f, pu_add, pu_mul, pu_in, pu_ck, pu_let, pu_cl, pu_cpok, pu_inr, Option.bind_some, ite_true, ite_false, pu_dm, pu_dv, pu_sub, nt_dm, if_true, if_false]))
      · rw [if_neg y] at hct
        refine Or.inl ⟨(x, plI (whB L (mayA H) z (j + 1)), nI (whM L (mayA H) z (j + 1)), nI (j + 1)), ?_, q, rfl, hm, hf, ho⟩
        simp only [li_0, li_1, li_2, li_3, li_4, li_5, li_6, li_7, li_8, li_9, li_10, li_11, li_12, li_13, li_14, li_15, li_16, li_17, li_18, li_19, li_20, li_30, li_31, li_32, li_33, li_40, li_41, li_42, li_43, li_45, li_48, li_56, li_57, li_59, li_60, li_61, li_64, li_91, li_97, li_99, li_100, li_122, li_150, li_160, li_200, li_201, li_255, li_300, li_303, li_304, li_305, li_306, li_312, li_400, li_500, li_999, li_1003, li_3099, li_99999, li_100000, li_1000000, li_65, li_23, li_neg]
        rw [ic_le_f q (by omega), hct, Option.bind_some, if_pos rfl, whM_s, whB_s, if_neg (fun u => y u.1), if_neg (fun u => y u.1)]
        ((try simp only [b_X7_which_123, li_0, li_1, li_2, li_3, li_4, li_5, li_6, li_7, li_8, li_9, li_10, li_11, li_12, li_13, li_14, li_15, li_16, li_17, li_18, li_19, li_20, li_30, li_31, li_32, li_33, li_40, li_41, li_42, li_43, li_45, li_48, li_56, li_57, li_59, li_60, li_61, li_64, li_91, li_97, li_99, li_100, li_122, li_150, li_160, li_200, li_201, li_255, li_300, li_303, li_304, li_305, li_306, li_312, li_400, li_500, li_999, li_1003, li_3099, li_99999, li_100000, li_1000000, li_65, li_23, li_neg]); (try simp (disch := omega) only [b_X7_which_123, ic_le_f, ic_le_t, ic_lt_f, ic_lt_t, ic_eq_f, ic_eq_t, ic_im, ic_mi, ic_mm_t, ic_mm_f, ic_mlt, ic_mle, ic_ilem, ic_iltm, ic_mmle_t, ic_mmle_f, pu_add, pu_mul, pu_in, pu_ck, pu_let, pu_cl, pu_cpok, pu_inr, Option.bind_some, ite_true, ite_false, pu_dm, pu_dv, pu_sub, nt_dm, if_true, if_false]))
    · have : j = H.n := by omega
      subst this
      refine Or.inr ⟨(plI (whB L (mayA H) z H.n), x), ?_, rfl, hm, hf, ho⟩
      ((try simp only [li_0, li_1, li_2, li_3, li_4, li_5, li_6, li_7, li_8, li_9, li_10, li_11, li_12, li_13, li_14, li_15, li_16, li_17, li_18, li_19, li_20, li_30, li_31, li_32, li_33, li_40, li_41, li_42, li_43, li_45, li_48, li_56, li_57, li_59, li_60, li_61, li_64, li_91, li_97, li_99, li_100, li_122, li_150, li_160, li_200, li_201, li_255, li_300, li_303, li_304, li_305, li_306, li_312, li_400, li_500, li_999, li_1003, li_3099, li_99999, li_100000, li_1000000, li_65, li_23, li_neg]); (try simp (disch := omega) only [ic_le_f, ic_le_t, ic_lt_f, ic_lt_t, ic_eq_f, ic_eq_t, ic_im, ic_mi, ic_mm_t, ic_mm_f, ic_mlt, ic_mle, ic_ilem, ic_iltm, ic_mmle_t, ic_mmle_f, pu_add, pu_mul, pu_in, pu_ck, pu_let, pu_cl, pu_cpok, pu_inr, Option.bind_some, ite_true, ite_false, pu_dm, pu_dv, pu_sub, nt_dm, if_true, if_false])))
  refine ⟨plI (whB L (mayA H) z H.n), r1.2, r2.2, ?_, ?_, Rel.thk hD c3 e4 e5 e3⟩
  · ((try simp only [f_X6_which, f_X6_isWeeks, f_X6_thinks, li_0, li_1, li_2, li_3, li_4, li_5, li_6, li_7, li_8, li_9, li_10, li_11, li_12, li_13, li_14, li_15, li_16, li_17, li_18, li_19, li_20, li_30, li_31, li_32, li_33, li_40, li_41, li_42, li_43, li_45, li_48, li_56, li_57, li_59, li_60, li_61, li_64, li_91, li_97, li_99, li_100, li_122, li_150, li_160, li_200, li_201, li_255, li_300, li_303, li_304, li_305, li_306, li_312, li_400, li_500, li_999, li_1003, li_3099, li_99999, li_100000, li_1000000, li_65, li_23, li_neg]); (try simp (disch := omega) only [f_X6_which, f_X6_isWeeks, f_X6_thinks, ic_le_f, ic_le_t, ic_lt_f, ic_lt_t, ic_eq_f, ic_eq_t, ic_im, ic_mi, ic_mm_t, ic_mm_f, ic_mlt, ic_mle, ic_ilem, ic_iltm, ic_mmle_t, ic_mmle_f, pu_add, pu_mul, pu_in, pu_ck, pu_let, pu_cl, pu_cpok, pu_inr, Option.bind_some, ite_true, ite_false, pu_dm, pu_dv, pu_sub, nt_dm, if_true, if_false]))
    rw [a1]
    ((try simp only [li_0, li_1, li_2, li_3, li_4, li_5, li_6, li_7, li_8, li_9, li_10, li_11, li_12, li_13, li_14, li_15, li_16, li_17, li_18, li_19, li_20, li_30, li_31, li_32, li_33, li_40, li_41, li_42, li_43, li_45, li_48, li_56, li_57, li_59, li_60, li_61, li_64, li_91, li_97, li_99, li_100, li_122, li_150, li_160, li_200, li_201, li_255, li_300, li_303, li_304, li_305, li_306, li_312, li_400, li_500, li_999, li_1003, li_3099, li_99999, li_100000, li_1000000, li_65, li_23, li_neg]); (try simp (disch := omega) only [ic_le_f, ic_le_t, ic_lt_f, ic_lt_t, ic_eq_f, ic_eq_t, ic_im, ic_mi, ic_mm_t, ic_mm_f, ic_mlt, ic_mle, ic_ilem, ic_iltm, ic_mmle_t, ic_mmle_f, pu_add, pu_mul, pu_in, pu_ck, pu_let, pu_cl, pu_cpok, pu_inr, Option.bind_some, ite_true, ite_false, pu_dm, pu_dv, pu_sub, nt_dm, if_true, if_false]))
    rw [b1]
    ((try simp only [li_0, li_1, li_2, li_3, li_4, li_5, li_6, li_7, li_8, li_9, li_10, li_11, li_12, li_13, li_14, li_15, li_16, li_17, li_18, li_19, li_20, li_30, li_31, li_32, li_33, li_40, li_41, li_42, li_43, li_45, li_48, li_56, li_57, li_59, li_60, li_61, li_64, li_91, li_97, li_99, li_100, li_122, li_150, li_160, li_200, li_201, li_255, li_300, li_303, li_304, li_305, li_306, li_312, li_400, li_500, li_999, li_1003, li_3099, li_99999, li_100000, li_1000000, li_65, li_23, li_neg]); (try simp (disch := omega) only [ic_le_f, ic_le_t, ic_lt_f, ic_lt_t, ic_eq_f, ic_eq_t, ic_im, ic_mi, ic_mm_t, ic_mm_f, ic_mlt, ic_mle, ic_ilem, ic_iltm, ic_mmle_t, ic_mmle_f, pu_add, pu_mul, pu_in, pu_ck, pu_let, pu_cl, pu_cpok, pu_inr, Option.bind_some, ite_true, ite_false, pu_dm, pu_dv, pu_sub, nt_dm, if_true, if_false]))
    rw [hlf, Option.bind_some, lp_X6_which_31, c1, ← c2]
  · ((try simp only [f_X7_which, f_X7_areWeeks, f_X7_in, qa_bl1, li_0, li_1, li_2, li_3, li_4, li_5, li_6, li_7, li_8, li_9, li_10, li_11, li_12, li_13, li_14, li_15, li_16, li_17, li_18, li_19, li_20, li_30, li_31, li_32, li_33, li_40, li_41, li_42, li_43, li_45, li_48, li_56, li_57, li_59, li_60, li_61, li_64, li_91, li_97, li_99, li_100, li_122, li_150, li_160, li_200, li_201, li_255, li_300, li_303, li_304, li_305, li_306, li_312, li_400, li_500, li_999, li_1003, li_3099, li_99999, li_100000, li_1000000, li_65, li_23, li_neg]); (try simp (disch := omega) only [f_X7_which, f_X7_areWeeks, f_X7_in, qa_bl1, ic_le_f, ic_le_t, ic_lt_f, ic_lt_t, ic_eq_f, ic_eq_t, ic_im, ic_mi, ic_mm_t, ic_mm_f, ic_mlt, ic_mle, ic_ilem, ic_iltm, ic_mmle_t, ic_mmle_f, pu_add, pu_mul, pu_in, pu_ck, pu_let, pu_cl, pu_cpok, pu_inr, Option.bind_some, ite_true, ite_false, pu_dm, pu_dv, pu_sub, nt_dm, if_true, if_false]))
    rw [d1]
    ((try simp only [li_0, li_1, li_2, li_3, li_4, li_5, li_6, li_7, li_8, li_9, li_10, li_11, li_12, li_13, li_14, li_15, li_16, li_17, li_18, li_19, li_20, li_30, li_31, li_32, li_33, li_40, li_41, li_42, li_43, li_45, li_48, li_56, li_57, li_59, li_60, li_61, li_64, li_91, li_97, li_99, li_100, li_122, li_150, li_160, li_200, li_201, li_255, li_300, li_303, li_304, li_305, li_306, li_312, li_400, li_500, li_999, li_1003, li_3099, li_99999, li_100000, li_1000000, li_65, li_23, li_neg]); (try simp (disch := omega) only [ic_le_f, ic_le_t, ic_lt_f, ic_lt_t, ic_eq_f, ic_eq_t, ic_im, ic_mi, ic_mm_t, ic_mm_f, ic_mlt, ic_mle, ic_ilem, ic_iltm, ic_mmle_t, ic_mmle_f, pu_add, pu_mul, pu_in, pu_ck, pu_let, pu_cl, pu_cpok, pu_inr, Option.bind_some, ite_true, ite_false, pu_dm, pu_dv, pu_sub, nt_dm, if_true, if_false]))
    rw [hlm, Option.bind_some, lp_X7_which_25, e1, ← e2]
