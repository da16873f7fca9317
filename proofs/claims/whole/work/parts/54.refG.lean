/-! PURE: the reference's weeks on weeks, and back -/
theorem lp_itm {ρ : Type} {f : qaM × Int32 → Option ((qaM × Int32) ⊕ ρ)} {g : qaM → Option ρ} {r0 : ρ} (h : Nat → qaM → qaM) (N : Nat) (hN : N < 1900) (m : qaM)
    (hs : ∀ (x : qaM) (k : Nat), k < N → f (x, nI k) = some (.inl (h k x, nI (k + 1)))) (he : ∀ x : qaM, f (x, nI N) = qa_inr (g x)) (hg : g (itN h N m) = some r0) : qa_lp f qa_F (m, (0 : Int32)) = some r0 := by
  obtain ⟨r, h1, h2⟩ := lp_at (f := f) (fun j s => s.2 = nI j ∧ s.1 = itN h j m) (fun r => r = r0) N (s := (m, (0 : Int32))) ⟨li_0, rfl⟩ hN (by
    rintro j ⟨x, k⟩ hj ⟨hk, hx⟩
    have hk2 : k = nI j := hk
    have hx2 : x = itN h j m := hx
    subst hk2 hx2
    rcases Nat.lt_or_ge j N with q | q
    · exact Or.inl ⟨_, hs _ j q, q, rfl, rfl⟩
    · have : j = N := by omega
      subst this
      refine Or.inr ⟨r0, ?_, rfl⟩
      rw [he, hg]
      rfl)
  rw [h1, h2]
/-- copied number by number, or set to a number -/
def cpS (a b k : Nat) (x : qaM) : qaM := qa_st x b k (x a k)
def cp2 (k : Nat) (x : qaM) : qaM := qa_st (qa_st x 59 k (x 39 k)) 39 k (x 57 k)
def stS (b : Nat) (v : Int32) (k : Nat) (x : qaM) : qaM := qa_st x b k v
theorem itN_F {h : Nat → qaM → qaM} {l : List Nat} (hh : ∀ k x, qF l x (h k x)) : ∀ (N : Nat) (m : qaM), qF l m (itN h N m) := by
  intro N
  induction N with
  | zero => exact fun m => qF.rf _ _
  | succ N ih => exact fun m => (ih m).t2 (hh N _) (fun _ z => z)
theorem cpS_F (a b N : Nat) (m : qaM) : qF [b] m (itN (cpS a b) N m) := itN_F (fun k x => qF.st x b k _) N m
theorem stS_F (b : Nat) (v : Int32) (N : Nat) (m : qaM) : qF [b] m (itN (stS b v) N m) := itN_F (fun k x => qF.st x b k v) N m
theorem cp2_F (N : Nat) (m : qaM) : qF [59, 39] m (itN cp2 N m) := itN_F (fun k x => ((qF.rf _ x).stl (by simp)).stl (by simp)) N m
theorem cpS_in {a b : Nat} (h : a ≠ b) (m : qaM) : ∀ N k : Nat, k < N → itN (cpS a b) N m b k = m a k := by
  intro N
  induction N with
  | zero => intro k hk; omega
  | succ N ih =>
    intro k hk
    show qa_st (itN (cpS a b) N m) b N (itN (cpS a b) N m a N) b k = m a k
    rw [st_s]
    by_cases q : k = N
    · rw [q, up_s, cpS_F a b N m a (by simpa using h)]
    · rw [up_n q]
      exact ih k (by omega)
theorem stS_in {b : Nat} {v : Int32} (m : qaM) : ∀ N k : Nat, k < N → itN (stS b v) N m b k = v := by
  intro N
  induction N with
  | zero => intro k hk; omega
  | succ N ih =>
    intro k hk
    show qa_st (itN (stS b v) N m) b N v b k = v
    rw [st_s]
    by_cases q : k = N
    · rw [q, up_s]
    · rw [up_n q]
      exact ih k (by omega)
theorem cp2_in (m : qaM) : ∀ N k : Nat, (k < N → itN cp2 N m 59 k = m 39 k ∧ itN cp2 N m 39 k = m 57 k) ∧ (N ≤ k → itN cp2 N m 39 k = m 39 k) := by
  intro N
  induction N with
  | zero => exact fun k => ⟨fun hk => by omega, fun _ => rfl⟩
  | succ N ih =>
    intro k
    have h57 : itN cp2 N m 57 = m 57 := cp2_F N m 57 (by decide)
    have e59 : itN cp2 (N + 1) m 59 = upd (itN cp2 N m 59) N (itN cp2 N m 39 N) := by
      show qa_st (qa_st (itN cp2 N m) 59 N (itN cp2 N m 39 N)) 39 N (itN cp2 N m 57 N) 59 = _
      rw [st_n (by omega), st_s]
    have e39 : itN cp2 (N + 1) m 39 = upd (itN cp2 N m 39) N (m 57 N) := by
      show qa_st (qa_st (itN cp2 N m) 59 N (itN cp2 N m 39 N)) 39 N (itN cp2 N m 57 N) 39 = _
      rw [st_s, st_n (by omega), h57]
    rw [e59, e39]
    refine ⟨fun hk => ?_, fun hk => ?_⟩
    · by_cases q : k = N
      · rw [q, up_s, up_s, (ih N).2 (Nat.le_refl _)]
        exact ⟨rfl, rfl⟩
      · rw [up_n q, up_n q]
        exact (ih k).1 (by omega)
    · rw [up_n (by omega)]
      exact (ih k).2 (by omega)
theorem r7begins (m : qaM) : ∃ m2, f_X7_begins m = some m2 ∧ RT m2 0 0 0 (fun _ => 0) ∧ qF [36, 56] m m2 ∧ o36l [37, 38, 39] m m2 := by
  have hf := stS_F 56 (nM 1) 8 (qa_st (qa_st (qa_st m 36 37 (nI 0)) 36 38 (nI 0)) 36 39 (nM 1))
  have h36 := hf 36 (by decide)
  refine ⟨itN (stS 56 (nM 1)) 8 (qa_st (qa_st (qa_st m 36 37 (nI 0)) 36 38 (nI 0)) 36 39 (nM 1)), ?_, ⟨?_, ?_, ?_, fun i hi => ?_⟩, ?_, fun a ha => ?_⟩
  · unfold f_X7_begins
    simp only [li_0, li_1, li_2, li_3, li_4, li_5, li_6, li_7, li_8, li_9, li_10, li_11, li_12, li_13, li_14, li_15, li_16, li_17, li_18, li_19, li_20, li_30, li_31, li_32, li_33, li_40, li_41, li_42, li_43, li_45, li_48, li_56, li_57, li_59, li_60, li_61, li_64, li_91, li_97, li_99, li_100, li_122, li_150, li_160, li_200, li_201, li_255, li_300, li_303, li_304, li_305, li_306, li_312, li_400, li_500, li_999, li_1003, li_3099, li_99999, li_100000, li_neg]
    rw [pu_let, pu_let, pu_let, lp_X7_begins_17]
    refine lp_itm (f := fun s : qaM × Int32 => b_X7_begins_17 s.1 s.2) (g := fun x => some x) (stS 56 (nM 1)) 8 (by omega) _ (fun x k hk => ?_) (fun x => ?_) rfl
    · show b_X7_begins_17 x (nI k) = _
      unfold b_X7_begins_17
      ((try simp only [li_0, li_1, li_2, li_3, li_4, li_5, li_6, li_7, li_8, li_9, li_10, li_11, li_12, li_13, li_14, li_15, li_16, li_17, li_18, li_19, li_20, li_30, li_31, li_32, li_33, li_40, li_41, li_42, li_43, li_45, li_48, li_56, li_57, li_59, li_60, li_61, li_64, li_91, li_97, li_99, li_100, li_122, li_150, li_160, li_200, li_201, li_255, li_300, li_303, li_304, li_305, li_306, li_312, li_400, li_500, li_999, li_1003, li_3099, li_99999, li_100000, li_neg]); simp (disch := omega) only [ic_le_f, ic_le_t, ic_lt_f, ic_lt_t, ic_eq_f, ic_eq_t, ic_im, ic_mi, ic_mm_t, ic_mm_f, ic_mlt, ic_mle, ic_ilem, ic_iltm, ic_mmle_t, ic_mmle_f, pu_add, pu_mul, pu_in, pu_ck, pu_let, pu_cl, pu_cpok, pu_inr, Option.bind_some, ite_true, ite_false])
      rfl
    · show b_X7_begins_17 x (nI 8) = _
      unfold b_X7_begins_17
      ((try simp only [li_0, li_1, li_2, li_3, li_4, li_5, li_6, li_7, li_8, li_9, li_10, li_11, li_12, li_13, li_14, li_15, li_16, li_17, li_18, li_19, li_20, li_30, li_31, li_32, li_33, li_40, li_41, li_42, li_43, li_45, li_48, li_56, li_57, li_59, li_60, li_61, li_64, li_91, li_97, li_99, li_100, li_122, li_150, li_160, li_200, li_201, li_255, li_300, li_303, li_304, li_305, li_306, li_312, li_400, li_500, li_999, li_1003, li_3099, li_99999, li_100000, li_neg]); simp (disch := omega) only [ic_le_f, ic_le_t, ic_lt_f, ic_lt_t, ic_eq_f, ic_eq_t, ic_im, ic_mi, ic_mm_t, ic_mm_f, ic_mlt, ic_mle, ic_ilem, ic_iltm, ic_mmle_t, ic_mmle_f, pu_add, pu_mul, pu_in, pu_ck, pu_let, pu_cl, pu_cpok, pu_inr, Option.bind_some, ite_true, ite_false])
  · rw [h36, st_s, up_n (by omega), st_s, up_n (by omega), st_s, up_s]
  · rw [h36, st_s, up_n (by omega), st_s, up_s]
  · rw [h36, st_s, up_s]
    rfl
  · exact stS_in _ 8 i hi
  · exact ((((qF.rf _ m).stl (by simp)).stl (by simp)).stl (by simp)).t2 hf (by simp)
  · have ha2 : a ≠ 37 ∧ a ≠ 38 ∧ a ≠ 39 := by simpa using ha
    rw [h36, st_s, up_n ha2.2.2, st_s, up_n ha2.2.1, st_s, up_n ha2.1]
/-- what is kept of a house -/
def KR (m m0 : qaM) : Prop := (∀ k : Nat, k < 48 → m 57 k = m0 39 k) ∧ (∀ k : Nat, k < 9 → m 58 k = m0 40 k) ∧ m 36 43 = m0 36 5 ∧ m 36 44 = m0 36 7
theorem r7keeps (m : qaM) : ∃ m2, f_X7_keeps m = some m2 ∧ KR m2 m ∧ RT m2 0 0 0 (fun _ => 0) ∧ qF [36, 56, 57, 58] m m2 ∧ o36l [37, 38, 39, 43, 44] m m2 := by
  have f1 := cpS_F 39 57 48 m
  have f2 := cpS_F 40 58 9 (itN (cpS 39 57) 48 m)
  have f12 : qF [57, 58] m (itN (cpS 40 58) 9 (itN (cpS 39 57) 48 m)) := (f1.mo (by simp)).t2 f2 (by simp)
  obtain ⟨m3, b1, b2, b3, b4⟩ := r7begins (qa_st (qa_st (itN (cpS 40 58) 9 (itN (cpS 39 57) 48 m)) 36 43 (m 36 5)) 36 44 (m 36 7))
  have h36 := f12 36 (by decide)
  refine ⟨m3, ?_, ⟨fun k hk => ?_, fun k hk => ?_, ?_, ?_⟩, b2, ?_, fun a ha => ?_⟩
  · unfold f_X7_keeps lp_X7_keeps_2
    refine lp_itm (f := fun s : qaM × Int32 => b_X7_keeps_2 s.1 s.2) (g := fun x => b_X7_keeps_26 x) (cpS 39 57) 48 (by omega) _ (fun x k hk => ?_) (fun x => ?_) ?_
    · show b_X7_keeps_2 x (nI k) = _
      unfold b_X7_keeps_2
      ((try simp only [li_0, li_1, li_2, li_3, li_4, li_5, li_6, li_7, li_8, li_9, li_10, li_11, li_12, li_13, li_14, li_15, li_16, li_17, li_18, li_19, li_20, li_30, li_31, li_32, li_33, li_40, li_41, li_42, li_43, li_45, li_48, li_56, li_57, li_59, li_60, li_61, li_64, li_91, li_97, li_99, li_100, li_122, li_150, li_160, li_200, li_201, li_255, li_300, li_303, li_304, li_305, li_306, li_312, li_400, li_500, li_999, li_1003, li_3099, li_99999, li_100000, li_neg]); simp (disch := omega) only [ic_le_f, ic_le_t, ic_lt_f, ic_lt_t, ic_eq_f, ic_eq_t, ic_im, ic_mi, ic_mm_t, ic_mm_f, ic_mlt, ic_mle, ic_ilem, ic_iltm, ic_mmle_t, ic_mmle_f, pu_add, pu_mul, pu_in, pu_ck, pu_let, pu_cl, pu_cpok, pu_inr, Option.bind_some, ite_true, ite_false])
      rfl
    · show b_X7_keeps_2 x (nI 48) = _
      unfold b_X7_keeps_2
      ((try simp only [li_0, li_1, li_2, li_3, li_4, li_5, li_6, li_7, li_8, li_9, li_10, li_11, li_12, li_13, li_14, li_15, li_16, li_17, li_18, li_19, li_20, li_30, li_31, li_32, li_33, li_40, li_41, li_42, li_43, li_45, li_48, li_56, li_57, li_59, li_60, li_61, li_64, li_91, li_97, li_99, li_100, li_122, li_150, li_160, li_200, li_201, li_255, li_300, li_303, li_304, li_305, li_306, li_312, li_400, li_500, li_999, li_1003, li_3099, li_99999, li_100000, li_neg]); simp (disch := omega) only [ic_le_f, ic_le_t, ic_lt_f, ic_lt_t, ic_eq_f, ic_eq_t, ic_im, ic_mi, ic_mm_t, ic_mm_f, ic_mlt, ic_mle, ic_ilem, ic_iltm, ic_mmle_t, ic_mmle_f, pu_add, pu_mul, pu_in, pu_ck, pu_let, pu_cl, pu_cpok, pu_inr, Option.bind_some, ite_true, ite_false])
    · show b_X7_keeps_26 _ = _
      unfold b_X7_keeps_26 lp_X7_keeps_28
      refine lp_itm (f := fun s : qaM × Int32 => b_X7_keeps_28 s.1 s.2) (g := fun x => b_X7_keeps_52 x) (cpS 40 58) 9 (by omega) _ (fun x k hk => ?_) (fun x => ?_) ?_
      · show b_X7_keeps_28 x (nI k) = _
        unfold b_X7_keeps_28
        ((try simp only [li_0, li_1, li_2, li_3, li_4, li_5, li_6, li_7, li_8, li_9, li_10, li_11, li_12, li_13, li_14, li_15, li_16, li_17, li_18, li_19, li_20, li_30, li_31, li_32, li_33, li_40, li_41, li_42, li_43, li_45, li_48, li_56, li_57, li_59, li_60, li_61, li_64, li_91, li_97, li_99, li_100, li_122, li_150, li_160, li_200, li_201, li_255, li_300, li_303, li_304, li_305, li_306, li_312, li_400, li_500, li_999, li_1003, li_3099, li_99999, li_100000, li_neg]); simp (disch := omega) only [ic_le_f, ic_le_t, ic_lt_f, ic_lt_t, ic_eq_f, ic_eq_t, ic_im, ic_mi, ic_mm_t, ic_mm_f, ic_mlt, ic_mle, ic_ilem, ic_iltm, ic_mmle_t, ic_mmle_f, pu_add, pu_mul, pu_in, pu_ck, pu_let, pu_cl, pu_cpok, pu_inr, Option.bind_some, ite_true, ite_false])
        rfl
      · show b_X7_keeps_28 x (nI 9) = _
        unfold b_X7_keeps_28
        ((try simp only [li_0, li_1, li_2, li_3, li_4, li_5, li_6, li_7, li_8, li_9, li_10, li_11, li_12, li_13, li_14, li_15, li_16, li_17, li_18, li_19, li_20, li_30, li_31, li_32, li_33, li_40, li_41, li_42, li_43, li_45, li_48, li_56, li_57, li_59, li_60, li_61, li_64, li_91, li_97, li_99, li_100, li_122, li_150, li_160, li_200, li_201, li_255, li_300, li_303, li_304, li_305, li_306, li_312, li_400, li_500, li_999, li_1003, li_3099, li_99999, li_100000, li_neg]); simp (disch := omega) only [ic_le_f, ic_le_t, ic_lt_f, ic_lt_t, ic_eq_f, ic_eq_t, ic_im, ic_mi, ic_mm_t, ic_mm_f, ic_mlt, ic_mle, ic_ilem, ic_iltm, ic_mmle_t, ic_mmle_f, pu_add, pu_mul, pu_in, pu_ck, pu_let, pu_cl, pu_cpok, pu_inr, Option.bind_some, ite_true, ite_false])
      · show b_X7_keeps_52 _ = _
        unfold b_X7_keeps_52
        rw [pu_let, pu_let, st_s, up_n (by omega), h36, b1]
        rfl
  · rw [b3 57 (by decide), st_n (by omega), st_n (by omega), f2 57 (by decide)]
    exact cpS_in (by omega) m 48 k hk
  · rw [b3 58 (by decide), st_n (by omega), st_n (by omega), cpS_in (by omega) _ 9 k hk, f1 40 (by decide)]
  · rw [b4 43 (by decide), st_s, up_n (by omega), st_s, up_s]
  · rw [b4 44 (by decide), st_s, up_s]
  · exact (((f12.mo (by simp)).stl (by simp)).stl (by simp)).t2 b3 (by simp)
  · have ha2 : a ≠ 37 ∧ a ≠ 38 ∧ a ≠ 39 ∧ a ≠ 43 ∧ a ≠ 44 := by simpa using ha
    rw [b4 a (by simp; omega), st_s, up_n (by omega), st_s, up_n (by omega), h36]
theorem r7laysBack (m : qaM) : ∃ m2, f_X7_laysBack m = some m2 ∧ (∀ k : Nat, k < 48 → m2 59 k = m 39 k ∧ m2 39 k = m 57 k) ∧ (∀ k : Nat, k < 9 → m2 40 k = m 58 k) ∧ m2 36 5 = m 36 43 ∧ m2 36 7 = m 36 44 ∧ qF [36, 39, 40, 59] m m2 ∧ o36l [5, 7] m m2 := by
  have f1 := cp2_F 48 m
  have f2 := cpS_F 58 40 9 (itN cp2 48 m)
  have f12 : qF [39, 40, 59] m (itN (cpS 58 40) 9 (itN cp2 48 m)) := (f1.mo (by simp)).t2 f2 (by simp)
  have h36 := f12 36 (by decide)
  refine ⟨qa_st (qa_st (itN (cpS 58 40) 9 (itN cp2 48 m)) 36 5 (m 36 43)) 36 7 (m 36 44), ?_, fun k hk => ?_, fun k hk => ?_, ?_, ?_, ?_, fun a ha => ?_⟩
  · unfold f_X7_laysBack lp_X7_laysBack_2
    refine lp_itm (f := fun s : qaM × Int32 => b_X7_laysBack_2 s.1 s.2) (g := fun x => b_X7_laysBack_38 x) cp2 48 (by omega) _ (fun x k hk => ?_) (fun x => ?_) ?_
    · show b_X7_laysBack_2 x (nI k) = _
      unfold b_X7_laysBack_2
      ((try simp only [li_0, li_1, li_2, li_3, li_4, li_5, li_6, li_7, li_8, li_9, li_10, li_11, li_12, li_13, li_14, li_15, li_16, li_17, li_18, li_19, li_20, li_30, li_31, li_32, li_33, li_40, li_41, li_42, li_43, li_45, li_48, li_56, li_57, li_59, li_60, li_61, li_64, li_91, li_97, li_99, li_100, li_122, li_150, li_160, li_200, li_201, li_255, li_300, li_303, li_304, li_305, li_306, li_312, li_400, li_500, li_999, li_1003, li_3099, li_99999, li_100000, li_neg]); simp (disch := omega) only [ic_le_f, ic_le_t, ic_lt_f, ic_lt_t, ic_eq_f, ic_eq_t, ic_im, ic_mi, ic_mm_t, ic_mm_f, ic_mlt, ic_mle, ic_ilem, ic_iltm, ic_mmle_t, ic_mmle_f, pu_add, pu_mul, pu_in, pu_ck, pu_let, pu_cl, pu_cpok, pu_inr, Option.bind_some, ite_true, ite_false])
      rw [st_n (show (57 : Nat) ≠ 59 by omega)]
      rfl
    · show b_X7_laysBack_2 x (nI 48) = _
      unfold b_X7_laysBack_2
      ((try simp only [li_0, li_1, li_2, li_3, li_4, li_5, li_6, li_7, li_8, li_9, li_10, li_11, li_12, li_13, li_14, li_15, li_16, li_17, li_18, li_19, li_20, li_30, li_31, li_32, li_33, li_40, li_41, li_42, li_43, li_45, li_48, li_56, li_57, li_59, li_60, li_61, li_64, li_91, li_97, li_99, li_100, li_122, li_150, li_160, li_200, li_201, li_255, li_300, li_303, li_304, li_305, li_306, li_312, li_400, li_500, li_999, li_1003, li_3099, li_99999, li_100000, li_neg]); simp (disch := omega) only [ic_le_f, ic_le_t, ic_lt_f, ic_lt_t, ic_eq_f, ic_eq_t, ic_im, ic_mi, ic_mm_t, ic_mm_f, ic_mlt, ic_mle, ic_ilem, ic_iltm, ic_mmle_t, ic_mmle_f, pu_add, pu_mul, pu_in, pu_ck, pu_let, pu_cl, pu_cpok, pu_inr, Option.bind_some, ite_true, ite_false])
    · show b_X7_laysBack_38 _ = _
      unfold b_X7_laysBack_38 lp_X7_laysBack_40
      refine lp_itm (f := fun s : qaM × Int32 => b_X7_laysBack_40 s.1 s.2) (g := fun x => b_X7_laysBack_64 x) (cpS 58 40) 9 (by omega) _ (fun x k hk => ?_) (fun x => ?_) ?_
      · show b_X7_laysBack_40 x (nI k) = _
        unfold b_X7_laysBack_40
        ((try simp only [li_0, li_1, li_2, li_3, li_4, li_5, li_6, li_7, li_8, li_9, li_10, li_11, li_12, li_13, li_14, li_15, li_16, li_17, li_18, li_19, li_20, li_30, li_31, li_32, li_33, li_40, li_41, li_42, li_43, li_45, li_48, li_56, li_57, li_59, li_60, li_61, li_64, li_91, li_97, li_99, li_100, li_122, li_150, li_160, li_200, li_201, li_255, li_300, li_303, li_304, li_305, li_306, li_312, li_400, li_500, li_999, li_1003, li_3099, li_99999, li_100000, li_neg]); simp (disch := omega) only [ic_le_f, ic_le_t, ic_lt_f, ic_lt_t, ic_eq_f, ic_eq_t, ic_im, ic_mi, ic_mm_t, ic_mm_f, ic_mlt, ic_mle, ic_ilem, ic_iltm, ic_mmle_t, ic_mmle_f, pu_add, pu_mul, pu_in, pu_ck, pu_let, pu_cl, pu_cpok, pu_inr, Option.bind_some, ite_true, ite_false])
        rfl
      · show b_X7_laysBack_40 x (nI 9) = _
        unfold b_X7_laysBack_40
        ((try simp only [li_0, li_1, li_2, li_3, li_4, li_5, li_6, li_7, li_8, li_9, li_10, li_11, li_12, li_13, li_14, li_15, li_16, li_17, li_18, li_19, li_20, li_30, li_31, li_32, li_33, li_40, li_41, li_42, li_43, li_45, li_48, li_56, li_57, li_59, li_60, li_61, li_64, li_91, li_97, li_99, li_100, li_122, li_150, li_160, li_200, li_201, li_255, li_300, li_303, li_304, li_305, li_306, li_312, li_400, li_500, li_999, li_1003, li_3099, li_99999, li_100000, li_neg]); simp (disch := omega) only [ic_le_f, ic_le_t, ic_lt_f, ic_lt_t, ic_eq_f, ic_eq_t, ic_im, ic_mi, ic_mm_t, ic_mm_f, ic_mlt, ic_mle, ic_ilem, ic_iltm, ic_mmle_t, ic_mmle_f, pu_add, pu_mul, pu_in, pu_ck, pu_let, pu_cl, pu_cpok, pu_inr, Option.bind_some, ite_true, ite_false])
      · show b_X7_laysBack_64 _ = _
        unfold b_X7_laysBack_64
        rw [pu_let, pu_let, st_s, up_n (by omega), h36]
  · rw [st_n (by omega), st_n (by omega), st_n (by omega), st_n (by omega), f2 59 (by decide), f2 39 (by decide)]
    exact (cp2_in m 48 k).1 hk
  · rw [st_n (by omega), st_n (by omega), cpS_in (by omega) _ 9 k hk, f1 58 (by decide)]
  · rw [st_s, up_n (by omega), st_s, up_s]
  · rw [st_s, up_s]
  · exact ((f12.mo (by simp)).stl (by simp)).stl (by simp)
  · have ha2 : a ≠ 5 ∧ a ≠ 7 := by simpa using ha
    rw [st_s, up_n ha2.2, st_s, up_n ha2.1, h36]
