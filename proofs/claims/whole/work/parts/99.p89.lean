/-! PURE: qp_text -/
theorem Y9.o {N v : Nat} {m y : qaM} (h : Y9 N m y v) : o36l [9, 12, 26, 27, 28, 29, 32, 33, 34] m y := by
  intro k hk
  have hk2 : k ≠ 9 ∧ k ≠ 12 ∧ k ≠ 26 ∧ k ≠ 27 ∧ k ≠ 28 ∧ k ≠ 29 ∧ k ≠ 32 ∧ k ≠ 33 ∧ k ≠ 34 := by simpa using hk
  exact h.2.1 k hk2.1 hk2.2.1 (by omega) (by omega)
theorem ne_fail {N P : Nat} (hN : N < 6) (hP : P ≤ 160) : ¬ nI N = nM 100 - nI P := by
  intro h
  have hall : ∀ P : Nat, P < 161 → ∀ N : Nat, N < 6 → ¬ nI N = nM 100 - nI P := by decide +kernel
  exact hall P (by omega) N hN h
theorem qp_text : qaP_text Rel := by
  intro m h
  obtain ⟨H, N, S, hD⟩ := h
  have ⟨c, r, v, hl, hw, t, tp, kk, sh, nt⟩ := hD
  obtain ⟨t1, t2, ⟨t3, t4⟩, t5, t6, t7, t8⟩ := t
  by_cases hN : N = 6
  · refine ⟨nM 4, m, m, ?_, ?_, Rel.mk hD⟩
    · unfold f_X6_text
      simp only [li_0, li_1, li_2, li_3, li_4, li_5, li_6, li_7, li_8, li_9, li_10, li_11, li_12, li_13, li_14, li_15, li_16, li_17, li_18, li_19, li_20, li_30, li_31, li_32, li_33, li_40, li_41, li_42, li_43, li_45, li_48, li_56, li_57, li_59, li_60, li_61, li_64, li_91, li_97, li_99, li_100, li_122, li_150, li_160, li_200, li_201, li_255, li_300, li_303, li_304, li_305, li_306, li_312, li_400, li_500, li_999, li_1003, li_3099, li_99999, li_100000, li_1000000, li_65, li_23, li_neg]
      rw [t1, ic_lt_f (by omega) (by omega)]
    · unfold f_X7_text
      simp only [li_0, li_1, li_2, li_3, li_4, li_5, li_6, li_7, li_8, li_9, li_10, li_11, li_12, li_13, li_14, li_15, li_16, li_17, li_18, li_19, li_20, li_30, li_31, li_32, li_33, li_40, li_41, li_42, li_43, li_45, li_48, li_56, li_57, li_59, li_60, li_61, li_64, li_91, li_97, li_99, li_100, li_122, li_150, li_160, li_200, li_201, li_255, li_300, li_303, li_304, li_305, li_306, li_312, li_400, li_500, li_999, li_1003, li_3099, li_99999, li_100000, li_1000000, li_65, li_23, li_neg]
      rw [t2, ic_eq_t hN]
  obtain ⟨B, L, tb⟩ := tp.b
  have hL := tb.2.2.1
  have hN6 : N < 6 := by omega
  have tr0 : TPR m B L := tb.R
  have h52 : ∀ k : Nat, k < 96 → m 52 k = nI (wtb.getD k 0) := t4.1
  -- the memory between
  have hcls : ∀ m1 : qaM, qF [1, 2, 3, 6] m m1 → TPR m1 B L ∧ (∀ k : Nat, k < 96 → m1 52 k = nI (wtb.getD k 0)) ∧ m1 36 12 = nI N := by
    intro m1 f
    refine ⟨tr0.F (by rw [f 36 (by decide)]) (f 42 (by decide)), fun k hk => ?_, ?_⟩
    · rw [f 52 (by decide)]
      exact h52 k hk
    · rw [f 36 (by decide), t2]
  -- what both end in
  have hrel : ∀ (m1 y : qaM) (N2 : Nat) (S2 : SF), qF [1, 2, 3, 6] m m1 → Y9 N m1 y N2 → m1 6 0 = nI 0 → m1 1 0 = nI N2 → N ≤ N2 → N2 ≤ 6 → TXX y N2 S2 → SV S2 → Rel y := by
    intro m1 y N2 S2 f hy h60 h10 hn2 hn6 htx hsv
    have f2 : qF [1, 2, 3, 6, 36, 43, 44, 53] m y := (f.mo (by simp)).t2 hy.1 (by simp)
    have o : o36l [9, 12, 26, 27, 28, 29, 32, 33, 34] m y := (o36l.q (k := []) f (by decide)).tr hy.o (by simp) (fun _ z => z)
    refine ⟨H, N2, S2, c.F f2 (by decide) (by decide) (by decide) (by decide) (by decide) (by decide), r.T f2 (by decide) (by decide) (by decide) (by decide) (by decide) o (by decide) (by decide) (by decide) (by decide), v, by omega, hw, ⟨?_, hy.2.2.2.1, ⟨by omega, htx⟩, hn6, htx.c hn6, htx.r hn6, hsv⟩, ⟨0, by omega, ?_, hy.2.2.1, fun k hk => absurd hk (Nat.not_lt_zero _)⟩, (kk.F f2 (by decide) (by decide) (by decide) (by decide) (by decide) (by decide) (by decide) (by decide) (by decide) (by decide) o (by decide) (by decide) (by decide) (by decide) (by decide) (Nat.le_refl _) (fun _ _ => ⟨rfl, rfl⟩)).up hn2, sh.F f2 (by decide) (by decide) (by decide) (by decide) (by decide) (by decide), nt.F (f2 8 (by decide)) rfl⟩
    · rw [hy.1 1 (by decide), h10]
    · rw [hy.1 6 (by decide), h60]
  rcases ktext (mr := m) tb tr0 h52 t1 t2 hN6 with ⟨x2, _, _, _, k1, _, k3, _, _⟩ | ⟨x2, _, P, kP, k1, _, k3, _⟩
  · have f : qF [1, 2, 3, 6] m (qa_st (qa_st x2 6 0 (nI 0)) 1 0 (nI (N + 1))) := (k3.1.1.stl (by simp)).stl (by simp)
    obtain ⟨g1, g2, g3⟩ := hcls _ f
    rcases ktext (mr := qa_st (qa_st x2 6 0 (nI 0)) 1 0 (nI (N + 1))) tb g1 g2 t1 g3 hN6 with ⟨x3, y, p3, W, j1, j2, j3, j4, j5⟩ | ⟨x3, y, P, jP, j1, _⟩
    · rw [k1] at j1
      have hx : qa_st (qa_st x2 6 0 (nI 0)) 1 0 (nI (N + 1)) = qa_st (qa_st x3 6 0 (nI 0)) 1 0 (nI (N + 1)) := congrArg (fun z : Int32 × qaM => z.2) (Option.some.inj j1)
      refine ⟨nI N, _, y, k1, j2, ?_⟩
      have f3 : qF [1, 2, 3, 6] m (qa_st (qa_st x3 6 0 (nI 0)) 1 0 (nI (N + 1))) := (j3.1.1.stl (by simp)).stl (by simp)
      have f4 := (f3.mo (l := [1, 2, 3, 6, 36, 43, 44, 53]) (by simp)).t2 (show qF [36, 43, 44, 53] (qa_st (qa_st x3 6 0 (nI 0)) 1 0 (nI (N + 1))) y by rw [← hx]; exact j4.1.1) (by simp)
      have yq : qF [36, 43, 44, 53] (qa_st (qa_st x3 6 0 (nI 0)) 1 0 (nI (N + 1))) y := by rw [← hx]; exact j4.1.1
      have y2 : ∀ k : Nat, y 2 k = x3 2 k := fun k => by rw [yq 2 (by decide), st_n (by omega), st_n (by omega)]
      have y3 : ∀ k : Nat, y 3 k = x3 3 k := fun k => by rw [yq 3 (by decide), st_n (by omega), st_n (by omega)]
      refine hrel _ y (N + 1) (fun l p f => if l = N ∧ p < 3 then vlL f (W p) else S l p f) f j4.1 (by rw [st_n (by omega), st_s, up_s]) (by rw [st_s, up_s]) (by omega) (by omega) (t4.new hL (f4 52 (by decide)) (fun k hk => by rw [y2]; exact j3.1.2.2.2.1 k (Or.inl hk)) (fun k hk => by rw [y3]; exact j3.1.2.2.2.2 k (Or.inl hk)) (fun k hk => by rw [j4.1.2.2.2.2.1 k (Or.inl hk), f 43 (by decide)]) (fun k hk => by rw [j4.1.2.2.2.2.2 k (Or.inl hk), f 44 (by decide)]) (fun i hi => by rw [y2]; exact j3.2.1 i hi) (fun j hj => by rw [y3]; exact j3.2.2 j hj) j4.2.1 j4.2.2 j5) ?_
      intro l p f
      show (if l = N ∧ p < 3 then vlL f (W p) else S l p f) ≤ 99
      split
      · exact clN_le _
      · exact t8 l p f
    · rw [k1] at j1
      have := congrArg (fun z : Int32 × qaM => z.1) (Option.some.inj j1)
      exact absurd this (ne_fail hN6 (by omega))
  · have f : qF [1, 2, 3, 6] m (qa_st x2 6 0 (nI 0)) := k3.1.stl (by simp)
    obtain ⟨g1, g2, g3⟩ := hcls _ f
    rcases ktext (mr := qa_st x2 6 0 (nI 0)) tb g1 g2 t1 g3 hN6 with ⟨x3, y, p3, W, j1, _⟩ | ⟨x3, y, P2, _, j1, j2, j3, j4⟩
    · rw [k1] at j1
      have := congrArg (fun z : Int32 × qaM => z.1) (Option.some.inj j1)
      exact absurd this.symm (ne_fail hN6 (by omega))
    · rw [k1] at j1
      obtain ⟨v1, hv1⟩ : ∃ v1, v1 = nM 100 - nI P := ⟨_, rfl⟩
      obtain ⟨v2, hv2⟩ : ∃ v2, v2 = nM 100 - nI P2 := ⟨_, rfl⟩
      rw [← hv1] at k1 j1
      rw [← hv2] at j1 j2
      have h1 := (Prod.mk.inj (Option.some.inj j1)).1
      rw [← h1] at j2
      refine ⟨v1, _, y, k1, j2, ?_⟩
      refine hrel _ y N S f j4 (by rw [st_s, up_s]) (by rw [st_n (by omega), k3.2.2.1 0 (by omega), t1]) (Nat.le_refl _) t5 ?_ t8
      obtain ⟨q1, T, q2⟩ := t4
      refine ⟨fun k hk => ?_, T, fun l hl => ?_⟩
      · rw [j4.1 52 (by decide)]
        exact g2 k hk
      · obtain ⟨⟨u1, u2, u3, u4, u5⟩, hS⟩ := q2 l hl
        refine ⟨⟨u1, fun p k hp hk => ?_, fun p hp => ?_, fun p hp => ?_, u5⟩, hS⟩
        · obtain ⟨u6, u7⟩ := eT_le u1 hp
          obtain ⟨c1, c2, c3⟩ := u2 p k hp hk
          refine ⟨c1, ?_, ?_⟩
          · rw [j4.1 2 (by decide), st_n (by omega), k3.2.2.2.1 _ (Or.inl (by omega))]
            exact c2
          · rw [j4.2.2.2.2.1 _ (Or.inl (by omega)), f 43 (by decide)]
            exact c3
        · rw [j4.1 3 (by decide), st_n (by omega), k3.2.2.2.2 _ (Or.inl (by omega))]
          exact u3 p hp
        · rw [j4.2.2.2.2.2 _ (Or.inl (by omega)), f 44 (by decide)]
          exact u4 p hp
