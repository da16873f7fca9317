/-! PURE: the calls (4): a week -/
theorem week_kinds {S : SF} {wan how : Nat} {H : HS} (i : Nat) : (weekA S wan how H).1.A i 0 = H.A i 0 ∧ (weekA S wan how H).1.A i 1 = H.A i 1 := by
  have hset : ∀ (X : HS) (j : Nat) (a : AL), a 0 = X.A j 0 → a 1 = X.A j 1 → (X.setA j a).A i 0 = X.A i 0 ∧ (X.setA j a).A i 1 = X.A i 1 := by
    intro X j a h0 h1
    by_cases q : i = j
    · rw [q, setA_s]
      exact ⟨h0, h1⟩
    · rw [setA_n q]
      exact ⟨rfl, rfl⟩
  have tr : ∀ {X Y Z : HS}, (Y.A i 0 = X.A i 0 ∧ Y.A i 1 = X.A i 1) → (Z.A i 0 = Y.A i 0 ∧ Z.A i 1 = Y.A i 1) → (Z.A i 0 = X.A i 0 ∧ Z.A i 1 = X.A i 1) := fun a b => ⟨b.1.trans a.1, b.2.trans a.2⟩
  have h1 : (cb H).A i 0 = H.A i 0 ∧ (cb H).A i 1 = H.A i 1 := by
    refine itN_ind (fun _ (x : HS) => x.A i 0 = H.A i 0 ∧ x.A i 1 = H.A i 1) H.n ⟨rfl, rfl⟩ (fun j x _ q => tr q ?_) H.n (Nat.le_refl _)
    unfold cbS
    repeat' split
    · exact ⟨rfl, rfl⟩
    · exact ⟨rfl, rfl⟩
    · exact hset x j _ rfl rfl
    · exact hset x j _ rfl rfl
  have h2 : (tak wan how (cb H)).1.A i 0 = (cb H).A i 0 ∧ (tak wan how (cb H)).1.A i 1 = (cb H).A i 1 := by
    rw [tak_A]
    exact ⟨rfl, rfl⟩
  have h3 : ∀ X : HS, (yel S X).A i 0 = X.A i 0 ∧ (yel S X).A i 1 = X.A i 1 := fun X =>
    itN_ind (f := yeS S) (fun _ (x : HS) => x.A i 0 = X.A i 0 ∧ x.A i 1 = X.A i 1) X.P.length ⟨rfl, rfl⟩ (fun j x _ q => tr q (hset x _ _ rfl rfl)) X.P.length (Nat.le_refl _)
  have h4 : ∀ (v : Nat) (X : HS), (was S v X).A i 0 = X.A i 0 ∧ (was S v X).A i 1 = X.A i 1 := fun v X => by
    refine itN_ind (fun _ (x : HS) => x.A i 0 = X.A i 0 ∧ x.A i 1 = X.A i 1) X.n ⟨rfl, rfl⟩ (fun j x _ q => tr q ?_) X.n (Nat.le_refl _)
    unfold waS
    repeat' split
    · exact hset x j _ rfl rfl
    · exact hset x j _ rfl rfl
    · exact hset x j _ rfl rfl
    · exact ⟨rfl, rfl⟩
  have h5 : ∀ (p : Nat) (X : HS), (drN p X).A i 0 = X.A i 0 ∧ (drN p X).A i 1 = X.A i 1 := by
    intro p
    induction p with
    | zero => exact fun X => ⟨rfl, rfl⟩
    | succ p ih =>
      intro X
      refine tr (Y := drS p X) ?_ (ih _)
      unfold drS
      split
      · exact hset (X.setP _) _ _ rfl rfl
      · exact ⟨rfl, rfl⟩
  exact tr h1 (tr h2 (tr (h3 _) (tr (h4 _ _) (h5 _ _))))
theorem week_wk (S : SF) (wan how : Nat) (H : HS) : (weekA S wan how H).1.wk = H.wk + 1 := by
  have tr1 : ∀ (f : Nat → HS → HS), (∀ j X, (f j X).wk = X.wk) → ∀ (n : Nat) (X : HS), (itN f n X).wk = X.wk := by
    intro f hf n
    induction n with
    | zero => exact fun _ => rfl
    | succ n ih => exact fun X => (hf n _).trans (ih X)
  have h1 : (cb H).wk = H.wk := tr1 _ (fun j X => by
    unfold cbS
    repeat' split
    all_goals rfl) _ _
  have h2 : (tak wan how (cb H)).1.wk = (cb H).wk := itN_ind (fun _ (x : HS × Nat × Nat) => x.1.wk = (cb H).wk) wan rfl (fun j x _ q => tkS_lw.2.2.trans q) wan (Nat.le_refl _)
  have h3 : ∀ X : HS, (yel S X).wk = X.wk := fun X => tr1 (yeS S) (fun _ _ => rfl) _ X
  have h4 : ∀ (v : Nat) (X : HS), (was S v X).wk = X.wk := fun v X => tr1 (waS S v) (fun j X => by
    unfold waS
    repeat' split
    all_goals rfl) _ X
  have h5 : ∀ (p : Nat) (X : HS), (drN p X).wk = X.wk := by
    intro p
    induction p with
    | zero => exact fun _ => rfl
    | succ p ih =>
      intro X
      refine (ih _).trans ?_
      unfold drS
      split <;> rfl
  show (drp _).wk + 1 = _
  unfold drp
  rw [h5, h4, h3, h2, h1]
theorem qp_live : qaP_live Rel := by
  intro m h
  obtain ⟨H, N, S, hD⟩ := h
  have ⟨c, r, v, hl, hw, t, _, _, _, ⟨tf, ou, fi, li, ct, n1, n2⟩⟩ := hD
  have hr := v.rs
  by_cases q : H.wk = 999
  · refine ⟨nM 4, m, m, ?_, ?_, Rel.mk hD⟩
    · unfold f_X6_live
      rw [c.2.2.2.1, q]
      ((try simp only [li_0, li_1, li_2, li_3, li_4, li_5, li_6, li_7, li_8, li_9, li_10, li_11, li_12, li_13, li_14, li_15, li_16, li_17, li_18, li_19, li_20, li_30, li_31, li_32, li_33, li_40, li_41, li_42, li_43, li_45, li_48, li_56, li_57, li_59, li_60, li_61, li_64, li_91, li_97, li_99, li_100, li_122, li_150, li_160, li_200, li_201, li_255, li_300, li_303, li_304, li_305, li_306, li_312, li_400, li_500, li_999, li_1003, li_3099, li_99999, li_100000, li_neg]); simp (disch := omega) only [ic_le_f, ic_le_t, ic_lt_f, ic_lt_t, ic_eq_f, ic_eq_t, ic_im, ic_mi, ic_mm_t, ic_mm_f, ic_mlt, ic_mle, ic_ilem, ic_iltm, ic_mmle_t, ic_mmle_f, pu_add, pu_mul, pu_in, pu_ck, pu_let, pu_cl, pu_cpok, pu_inr, Option.bind_some, ite_true, ite_false])
    · unfold f_X7_live
      rw [r.2.2.2.2.1, q]
      ((try simp only [li_0, li_1, li_2, li_3, li_4, li_5, li_6, li_7, li_8, li_9, li_10, li_11, li_12, li_13, li_14, li_15, li_16, li_17, li_18, li_19, li_20, li_30, li_31, li_32, li_33, li_40, li_41, li_42, li_43, li_45, li_48, li_56, li_57, li_59, li_60, li_61, li_64, li_91, li_97, li_99, li_100, li_122, li_150, li_160, li_200, li_201, li_255, li_300, li_303, li_304, li_305, li_306, li_312, li_400, li_500, li_999, li_1003, li_3099, li_99999, li_100000, li_neg]); simp (disch := omega) only [ic_le_f, ic_le_t, ic_lt_f, ic_lt_t, ic_eq_f, ic_eq_t, ic_im, ic_mi, ic_mm_t, ic_mm_f, ic_mlt, ic_mle, ic_ilem, ic_iltm, ic_mmle_t, ic_mmle_f, pu_add, pu_mul, pu_in, pu_ck, pu_let, pu_cl, pu_cpok, pu_inr, Option.bind_some, ite_true, ite_false])
  · obtain ⟨m1, g1, g2, g3, g4⟩ := klive (how := H.R 2) (wan := H.R 0) c v ct (by omega) t.2.2.2.2.1 t.2.2.2.2.2.2 hl hr.1 hr.2.2.1 (by omega)
    have r1 : MH m1 H := r.cl g4 (by simp)
    obtain ⟨m2, b1, b2, b3, b4⟩ := r7begins m1
    have r2 : MH m2 H := r1.T b3 (by decide) (by decide) (by decide) (by decide) (by decide) b4 (by decide) (by decide) (by decide) (by decide)
    have t2 := (t.2.2.2.2.2.1.F g4 (by decide) (by decide)).F b3 (by decide) (by decide)
    obtain ⟨m3, go, k1, k2, k3, _, k5, k6⟩ := r7week (w := 0) (how := H.R 2) (wan := H.R 0) r2 v b2 t2 t.2.2.2.2.2.2 hl (Nat.le_refl _) (by omega) hr.1 hr.2.2.1
    have f3 : qF [36, 39, 40, 54, 55, 56] m1 m3 := (b3.mo (by simp)).t2 k5 (by simp)
    have vw := week_V (S := S) (wan := H.R 0) (how := H.R 2) v
    have kw := week_K S (H.R 0) (H.R 2) H
    refine ⟨nI (weekA S (H.R 0) (H.R 2) H).2.1, m1, m3, ?_, ?_, ?_⟩
    · unfold f_X6_live
      have h0 : m 13 0 = nI (H.R 0) := c.2.2.1 0 (by omega)
      have h2 : m 13 2 = nI (H.R 2) := c.2.2.1 2 (by omega)
      rw [c.2.2.2.1, h0, h2]
      ((try simp only [li_0, li_1, li_2, li_3, li_4, li_5, li_6, li_7, li_8, li_9, li_10, li_11, li_12, li_13, li_14, li_15, li_16, li_17, li_18, li_19, li_20, li_30, li_31, li_32, li_33, li_40, li_41, li_42, li_43, li_45, li_48, li_56, li_57, li_59, li_60, li_61, li_64, li_91, li_97, li_99, li_100, li_122, li_150, li_160, li_200, li_201, li_255, li_300, li_303, li_304, li_305, li_306, li_312, li_400, li_500, li_999, li_1003, li_3099, li_99999, li_100000, li_neg]); simp (disch := omega) only [ic_le_f, ic_le_t, ic_lt_f, ic_lt_t, ic_eq_f, ic_eq_t, ic_im, ic_mi, ic_mm_t, ic_mm_f, ic_mlt, ic_mle, ic_ilem, ic_iltm, ic_mmle_t, ic_mmle_f, pu_add, pu_mul, pu_in, pu_ck, pu_let, pu_cl, pu_cpok, pu_inr, Option.bind_some, ite_true, ite_false])
      rw [g1, Option.bind_some]
    · unfold f_X7_live
      rw [r1.2.2.2.2.1]
      ((try simp only [li_0, li_1, li_2, li_3, li_4, li_5, li_6, li_7, li_8, li_9, li_10, li_11, li_12, li_13, li_14, li_15, li_16, li_17, li_18, li_19, li_20, li_30, li_31, li_32, li_33, li_40, li_41, li_42, li_43, li_45, li_48, li_56, li_57, li_59, li_60, li_61, li_64, li_91, li_97, li_99, li_100, li_122, li_150, li_160, li_200, li_201, li_255, li_300, li_303, li_304, li_305, li_306, li_312, li_400, li_500, li_999, li_1003, li_3099, li_99999, li_100000, li_neg]); simp (disch := omega) only [ic_le_f, ic_le_t, ic_lt_f, ic_lt_t, ic_eq_f, ic_eq_t, ic_im, ic_mi, ic_mm_t, ic_mm_f, ic_mlt, ic_mle, ic_ilem, ic_iltm, ic_mmle_t, ic_mmle_f, pu_add, pu_mul, pu_in, pu_ck, pu_let, pu_cl, pu_cpok, pu_inr, Option.bind_some, ite_true, ite_false])
      rw [b1, Option.bind_some, r2.2.2.1 0 (by omega), r2.2.2.1 2 (by omega), k1, Option.bind_some, k3.1, Nat.zero_add]
    · have ct3 : ∀ {a b c d : Nat}, CT m1 8 a b c d → CT m3 8 a b c d := fun {a b c d} h => by
        unfold CT
        rw [f3 8 (by decide)]
        exact h
      refine Rel.mut hD ((g4.mo (by simp)).t2 f3 (by simp)) ((o36l.q (k := []) g4 (by decide)).tr (b4.tr k6 (l := [5, 7, 37, 38, 39]) (by simp) (by simp)) (by simp) (by simp)) (g2.rf f3 (by omega) (by simp)) k2 vw.1 (by rw [kw.2.2]; exact hl) (by rw [week_wk]; omega) (by rw [kw.1]; exact Nat.le_refl _) (fun i _ => week_kinds i) ⟨_, _, _, _, ct3 g3, fiN_le n1, by rw [week_wk]; omega⟩
