/-! PURE: the reference's house, its week to the end -/
def o36l (l : List Nat) (m m2 : qaM) : Prop := ∀ a : Nat, a ∉ l → m2 36 a = m 36 a
theorem o36l.rf (l : List Nat) (m : qaM) : o36l l m m := fun _ _ => rfl
theorem o36l.tr {l1 l2 l : List Nat} {m m1 m2 : qaM} (h : o36l l1 m m1) (g : o36l l2 m1 m2) (ha : ∀ a ∈ l1, a ∈ l) (hb : ∀ a ∈ l2, a ∈ l) : o36l l m m2 := fun a h0 => (g a (fun z => h0 (hb a z))).trans (h a (fun z => h0 (ha a z)))
theorem o36l.q {k l : List Nat} {m m1 : qaM} (h : qF l m m1) (hl : 36 ∉ l) : o36l k m m1 := fun a _ => by rw [h 36 hl]
theorem o36.l {k : Nat} {l : List Nat} {m m1 : qaM} (h : o36 k m m1) (hk : k ∈ l) : o36l l m m1 := fun a ha => h a (fun z => ha (z ▸ hk))
theorem o36l.st (m : qaM) (k : Nat) (v : Int32) : o36l [k] m (qa_st m 36 k v) := fun a ha => by
  have ha2 : a ≠ k := by simpa using ha
  rw [st_s, up_n ha2]
/-- the reference's tally: too few, who was out, the first week, and who went when -/
def RT (m : qaM) (tf ou fi : Nat) (go : Nat → Nat) : Prop := m 36 37 = nI tf ∧ m 36 38 = nI ou ∧ m 36 39 = plI fi ∧ ∀ i : Nat, i < 8 → m 56 i = plI (go i)
theorem RT.F {m m2 : qaM} {tf ou fi : Nat} {go : Nat → Nat} {l k : List Nat} (h : RT m tf ou fi go) (hf : qF l m m2) (h56 : 56 ∉ l) (ho : o36l k m m2) (h1 : 37 ∉ k) (h2 : 38 ∉ k) (h3 : 39 ∉ k) : RT m2 tf ou fi go := by
  unfold RT
  rw [ho _ h1, ho _ h2, ho _ h3, hf _ h56]
  exact h
theorem MH.T {m m2 : qaM} {H : HS} {l k : List Nat} (h : MH m H) (hf : qF l m m2) (h1 : 37 ∉ l) (h2 : 38 ∉ l) (h3 : 39 ∉ l) (h4 : 40 ∉ l) (h5 : 41 ∉ l) (ho : o36l k m m2) (k0 : 0 ∉ k) (k5 : 5 ∉ k) (k7 : 7 ∉ k) (k13 : 13 ∉ k) : MH m2 H :=
  h.F hf h1 h2 h3 h4 h5 (ho _ k0) (ho _ k5) (ho _ k7) (ho _ k13)
theorem r7tkS {m : qaM} {how wan j tf : Nat} {T : HS × Nat × Nat} (c : MH m T.1) (hv : HV T.1) (hh : how ≤ 3) (hj : j < wan) (hw : wan < 2 ^ 31) (h37 : m 36 37 = nI (tf + T.2.1)) :
    ∃ m2, b_X7_takesSo_5 m (nI wan) (nI how) (nI T.2.2) (nI j) = some (.inl (m2, nI (tkS how j T).2.2, nI (j + 1))) ∧ MH m2 (tkS how j T).1 ∧ m2 36 37 = nI (tf + (tkS how j T).2.1) ∧ qF [36, 40] m m2 ∧ o36l [5, 37] m m2 := by
  have h8 := c.2.1.2.1
  unfold b_X7_takesSo_5 tkS
  by_cases h0 : T.1.P.length = 0
  · rw [if_pos h0]
    refine ⟨qa_st m 36 37 (nI (tf + (T.2.1 + 1))), ?_, ?_, ?_, (qF.st _ _ _ _).mo (by simp), (o36l.st _ _ _).tr (o36l.rf [] _) (by simp) (by simp)⟩
    · rw [c.2.1.1, h0]
      ((try simp only [li_0, li_1, li_2, li_3, li_4, li_5, li_6, li_7, li_8, li_9, li_10, li_11, li_12, li_13, li_14, li_15, li_16, li_17, li_18, li_19, li_20, li_30, li_31, li_32, li_33, li_40, li_41, li_42, li_43, li_45, li_48, li_56, li_57, li_59, li_60, li_61, li_64, li_91, li_97, li_99, li_100, li_122, li_150, li_160, li_200, li_201, li_255, li_300, li_303, li_304, li_305, li_306, li_312, li_400, li_500, li_999, li_1003, li_3099, li_99999, li_100000, li_neg]); simp (disch := omega) only [ic_le_f, ic_le_t, ic_lt_f, ic_lt_t, ic_eq_f, ic_eq_t, ic_im, ic_mi, ic_mm_t, ic_mm_f, ic_mlt, ic_mle, ic_ilem, ic_iltm, ic_mmle_t, ic_mmle_f, pu_add, pu_mul, pu_in, pu_ck, pu_let, pu_cl, pu_cpok, pu_inr, Option.bind_some, ite_true, ite_false])
      rw [h37, pu_add]
      ((try simp only [b_X7_takesSo_45, li_0, li_1, li_2, li_3, li_4, li_5, li_6, li_7, li_8, li_9, li_10, li_11, li_12, li_13, li_14, li_15, li_16, li_17, li_18, li_19, li_20, li_30, li_31, li_32, li_33, li_40, li_41, li_42, li_43, li_45, li_48, li_56, li_57, li_59, li_60, li_61, li_64, li_91, li_97, li_99, li_100, li_122, li_150, li_160, li_200, li_201, li_255, li_300, li_303, li_304, li_305, li_306, li_312, li_400, li_500, li_999, li_1003, li_3099, li_99999, li_100000, li_neg]); simp (disch := omega) only [b_X7_takesSo_45, ic_le_f, ic_le_t, ic_lt_f, ic_lt_t, ic_eq_f, ic_eq_t, ic_im, ic_mi, ic_mm_t, ic_mm_f, ic_mlt, ic_mle, ic_ilem, ic_iltm, ic_mmle_t, ic_mmle_f, pu_add, pu_mul, pu_in, pu_ck, pu_let, pu_cl, pu_cpok, pu_inr, Option.bind_some, ite_true, ite_false])
      rfl
    · exact c.T (qF.st _ _ _ _) (by simp) (by simp) (by simp) (by simp) (by simp) (o36l.st _ _ _) (by simp) (by simp) (by simp) (by simp)
    · rw [st_s, up_s]
  · rw [if_neg h0]
    have hk := tkK_lt (how := how) (H := T.1) (by omega)
    have hi := hv.i8 _ (getD_mem hk)
    obtain ⟨m2, e1, e2, e3, e4⟩ := r7takesFrom c hk
    refine ⟨m2, ?_, e2, ?_, e3, e4.l (by simp)⟩
    · rw [c.2.1.1]
      ((try simp only [li_0, li_1, li_2, li_3, li_4, li_5, li_6, li_7, li_8, li_9, li_10, li_11, li_12, li_13, li_14, li_15, li_16, li_17, li_18, li_19, li_20, li_30, li_31, li_32, li_33, li_40, li_41, li_42, li_43, li_45, li_48, li_56, li_57, li_59, li_60, li_61, li_64, li_91, li_97, li_99, li_100, li_122, li_150, li_160, li_200, li_201, li_255, li_300, li_303, li_304, li_305, li_306, li_312, li_400, li_500, li_999, li_1003, li_3099, li_99999, li_100000, li_neg]); simp (disch := omega) only [ic_le_f, ic_le_t, ic_lt_f, ic_lt_t, ic_eq_f, ic_eq_t, ic_im, ic_mi, ic_mm_t, ic_mm_f, ic_mlt, ic_mle, ic_ilem, ic_iltm, ic_mmle_t, ic_mmle_f, pu_add, pu_mul, pu_in, pu_ck, pu_let, pu_cl, pu_cpok, pu_inr, Option.bind_some, ite_true, ite_false])
      rw [r7placeBy c hv hh (by omega), Option.bind_some, e1]
      ((try simp only [b_X7_takesSo_45, li_0, li_1, li_2, li_3, li_4, li_5, li_6, li_7, li_8, li_9, li_10, li_11, li_12, li_13, li_14, li_15, li_16, li_17, li_18, li_19, li_20, li_30, li_31, li_32, li_33, li_40, li_41, li_42, li_43, li_45, li_48, li_56, li_57, li_59, li_60, li_61, li_64, li_91, li_97, li_99, li_100, li_122, li_150, li_160, li_200, li_201, li_255, li_300, li_303, li_304, li_305, li_306, li_312, li_400, li_500, li_999, li_1003, li_3099, li_99999, li_100000, li_neg]); simp (disch := omega) only [b_X7_takesSo_45, ic_le_f, ic_le_t, ic_lt_f, ic_lt_t, ic_eq_f, ic_eq_t, ic_im, ic_mi, ic_mm_t, ic_mm_f, ic_mlt, ic_mle, ic_ilem, ic_iltm, ic_mmle_t, ic_mmle_f, pu_add, pu_mul, pu_in, pu_ck, pu_let, pu_cl, pu_cpok, pu_inr, Option.bind_some, ite_true, ite_false])
      rw [pu_bitor hi]
    · rw [e4 37 (by decide)]
      exact h37
theorem r7takesSo {m : qaM} {how wan tf : Nat} {H : HS} (c : MH m H) (hv : HV H) (hh : how ≤ 3) (hw : wan ≤ 8) (h37 : m 36 37 = nI tf) :
    ∃ m2, f_X7_takesSo m (nI wan) (nI how) = some (nI (tak wan how H).2.2, m2) ∧ MH m2 (tak wan how H).1 ∧ m2 36 37 = nI (tf + (tak wan how H).2.1) ∧ qF [36, 40] m m2 ∧ o36l [5, 37] m m2 := by
  obtain ⟨r, h1, h2⟩ := lp_at (f := fun s : qaM × Int32 × Int32 => b_X7_takesSo_5 s.1 (nI wan) (nI how) s.2.1 s.2.2)
    (fun j s => ∃ T : HS × Nat × Nat, T = itN (tkS how) j (H, 0, 0) ∧ s.2 = (nI T.2.2, nI j) ∧ MH s.1 T.1 ∧ HV T.1 ∧ WV T.1 T.2.2 0 ∧ s.1 36 37 = nI (tf + T.2.1) ∧ qF [36, 40] m s.1 ∧ o36l [5, 37] m s.1)
    (fun r => r.1 = nI (tak wan how H).2.2 ∧ MH r.2 (tak wan how H).1 ∧ r.2 36 37 = nI (tf + (tak wan how H).2.1) ∧ qF [36, 40] m r.2 ∧ o36l [5, 37] m r.2) wan
    (s := (m, nI 0, nI 0)) ⟨(H, 0, 0), rfl, rfl, c, hv, (fun i _ hb => by
      have hb1 : (0 : Nat).testBit i = true := hb
      rw [Nat.zero_testBit] at hb1
      exact absurd hb1 (by decide)), h37, qF.rf _ _, o36l.rf _ _⟩ (by omega) (by
    rintro j ⟨x, k⟩ hj ⟨T, hT, hk, k1, k2, k3, k4, k5, k6⟩
    have hk2 : k = (nI T.2.2, nI j) := hk
    subst hk2
    rcases Nat.lt_or_ge j wan with q | q
    · obtain ⟨x2, g1, g2, g3, g4, g5⟩ := r7tkS k1 k2 hh q (by omega) k4
      have g6 := tkS_V (how := how) (j := j) k2 k3
      exact Or.inl ⟨_, g1, q, tkS how j T, by rw [hT]; rfl, rfl, g2, g6.1, g6.2.1, g3, k5.t2 g4 (fun _ z => z), k6.tr g5 (fun _ z => z) (fun _ z => z)⟩
    · have hjw : j = wan := by omega
      subst hjw
      have hT2 : T = tak j how H := hT
      refine Or.inr ⟨(nI T.2.2, x), ?_, by rw [hT2], by rw [← hT2]; exact k1, by rw [← hT2]; exact k4, k5, k6⟩
      show b_X7_takesSo_5 x (nI j) (nI how) (nI T.2.2) (nI j) = _
      unfold b_X7_takesSo_5
      ((try simp only [li_0, li_1, li_2, li_3, li_4, li_5, li_6, li_7, li_8, li_9, li_10, li_11, li_12, li_13, li_14, li_15, li_16, li_17, li_18, li_19, li_20, li_30, li_31, li_32, li_33, li_40, li_41, li_42, li_43, li_45, li_48, li_56, li_57, li_59, li_60, li_61, li_64, li_91, li_97, li_99, li_100, li_122, li_150, li_160, li_200, li_201, li_255, li_300, li_303, li_304, li_305, li_306, li_312, li_400, li_500, li_999, li_1003, li_3099, li_99999, li_100000, li_neg]); simp (disch := omega) only [ic_le_f, ic_le_t, ic_lt_f, ic_lt_t, ic_eq_f, ic_eq_t, ic_im, ic_mi, ic_mm_t, ic_mm_f, ic_mlt, ic_mle, ic_ilem, ic_iltm, ic_mmle_t, ic_mmle_f, pu_add, pu_mul, pu_in, pu_ck, pu_let, pu_cl, pu_cpok, pu_inr, Option.bind_some, ite_true, ite_false]))
  refine ⟨r.2, ?_, h2.2⟩
  unfold f_X7_takesSo
  simp only [li_0, li_1, li_2, li_3, li_4, li_5, li_6, li_7, li_8, li_9, li_10, li_11, li_12, li_13, li_14, li_15, li_16, li_17, li_18, li_19, li_20, li_30, li_31, li_32, li_33, li_40, li_41, li_42, li_43, li_45, li_48, li_56, li_57, li_59, li_60, li_61, li_64, li_91, li_97, li_99, li_100, li_122, li_150, li_160, li_200, li_201, li_255, li_300, li_303, li_304, li_305, li_306, li_312, li_400, li_500, li_999, li_1003, li_3099, li_99999, li_100000, li_neg]
  rw [lp_X7_takesSo_5, h1, ← h2.1]
def fiW (fi w : Nat) : Nat := if fi = 0 then w + 1 else fi
def goU (go : Nat → Nat) (i w : Nat) (a : Nat) : Nat := if a = i then w + 1 else go a
theorem r7cloths {m : qaM} {i w tf ou fi : Nat} {go : Nat → Nat} {H : HS} (c : MH m H) (rt : RT m tf ou fi go) (hi : i < 8) (hf : fi < 2 ^ 30) :
    ∃ m2, f_X7_goesToCloths m (nI i) (nI w) = some m2 ∧ MH m2 (H.setA i (aU (H.A i) 7 1)) ∧ RT m2 tf ou (fiW fi w) (goU go i w) ∧ qF [36, 39, 56] m m2 ∧ o36l [39] m m2 := by
  have c1 : MH (qa_st m 39 (6 * i + 5) (nI 1)) (H.setA i (aU (H.A i) 7 1)) := r7set c (k := 5) (by omega) (fun _ => rfl)
  have c2 := c1.F2 (qF.st (qa_st m 39 (6 * i + 5) (nI 1)) 56 i (nI w)) (by simp) (by simp) (by simp) (by simp) (by simp) (by simp)
  have c3 := c2.T (qF.st _ 36 39 (plI (fiW fi w))) (by simp) (by simp) (by simp) (by simp) (by simp) (o36l.st _ _ _) (by simp) (by simp) (by simp) (by simp)
  have h39 : qa_st (qa_st m 39 (6 * i + 5) (nI 1)) 56 i (nI w) 36 39 = plI fi := by
    rw [st_n (by omega), st_n (by omega)]
    exact rt.2.2.1
  refine ⟨_, ?_, c3, ⟨?_, ?_, ?_, fun a ha => ?_⟩, (((qF.rf _ m).stl (by simp)).stl (by simp)).stl (by simp), fun a ha => ?_⟩
  · unfold f_X7_goesToCloths
    ((try simp only [li_0, li_1, li_2, li_3, li_4, li_5, li_6, li_7, li_8, li_9, li_10, li_11, li_12, li_13, li_14, li_15, li_16, li_17, li_18, li_19, li_20, li_30, li_31, li_32, li_33, li_40, li_41, li_42, li_43, li_45, li_48, li_56, li_57, li_59, li_60, li_61, li_64, li_91, li_97, li_99, li_100, li_122, li_150, li_160, li_200, li_201, li_255, li_300, li_303, li_304, li_305, li_306, li_312, li_400, li_500, li_999, li_1003, li_3099, li_99999, li_100000, li_neg]); simp (disch := omega) only [ic_le_f, ic_le_t, ic_lt_f, ic_lt_t, ic_eq_f, ic_eq_t, ic_im, ic_mi, ic_mm_t, ic_mm_f, ic_mlt, ic_mle, ic_ilem, ic_iltm, ic_mmle_t, ic_mmle_f, pu_add, pu_mul, pu_in, pu_ck, pu_let, pu_cl, pu_cpok, pu_inr, Option.bind_some, ite_true, ite_false])
    rw [h39]
    unfold fiW
    by_cases q : fi = 0
    · rw [if_pos q, q, plI_0, plI_s]
      ((try simp only [b_X7_goesToCloths_36, li_0, li_1, li_2, li_3, li_4, li_5, li_6, li_7, li_8, li_9, li_10, li_11, li_12, li_13, li_14, li_15, li_16, li_17, li_18, li_19, li_20, li_30, li_31, li_32, li_33, li_40, li_41, li_42, li_43, li_45, li_48, li_56, li_57, li_59, li_60, li_61, li_64, li_91, li_97, li_99, li_100, li_122, li_150, li_160, li_200, li_201, li_255, li_300, li_303, li_304, li_305, li_306, li_312, li_400, li_500, li_999, li_1003, li_3099, li_99999, li_100000, li_neg]); simp (disch := omega) only [b_X7_goesToCloths_36, ic_le_f, ic_le_t, ic_lt_f, ic_lt_t, ic_eq_f, ic_eq_t, ic_im, ic_mi, ic_mm_t, ic_mm_f, ic_mlt, ic_mle, ic_ilem, ic_iltm, ic_mmle_t, ic_mmle_f, pu_add, pu_mul, pu_in, pu_ck, pu_let, pu_cl, pu_cpok, pu_inr, Option.bind_some, ite_true, ite_false])
    · rw [if_neg q]
      have hn : ¬ plI fi = nM 1 := by
        unfold plI
        rw [if_neg q]
        exact fun z => nM_eqI (by omega) (by omega) (Or.inl (by omega)) z.symm
      rw [if_neg hn]
      ((try simp only [b_X7_goesToCloths_36, li_0, li_1, li_2, li_3, li_4, li_5, li_6, li_7, li_8, li_9, li_10, li_11, li_12, li_13, li_14, li_15, li_16, li_17, li_18, li_19, li_20, li_30, li_31, li_32, li_33, li_40, li_41, li_42, li_43, li_45, li_48, li_56, li_57, li_59, li_60, li_61, li_64, li_91, li_97, li_99, li_100, li_122, li_150, li_160, li_200, li_201, li_255, li_300, li_303, li_304, li_305, li_306, li_312, li_400, li_500, li_999, li_1003, li_3099, li_99999, li_100000, li_neg]); simp (disch := omega) only [b_X7_goesToCloths_36, ic_le_f, ic_le_t, ic_lt_f, ic_lt_t, ic_eq_f, ic_eq_t, ic_im, ic_mi, ic_mm_t, ic_mm_f, ic_mlt, ic_mle, ic_ilem, ic_iltm, ic_mmle_t, ic_mmle_f, pu_add, pu_mul, pu_in, pu_ck, pu_let, pu_cl, pu_cpok, pu_inr, Option.bind_some, ite_true, ite_false])
  · rw [st_s, up_n (by omega), st_n (by omega), st_n (by omega)]
    exact rt.1
  · rw [st_s, up_n (by omega), st_n (by omega), st_n (by omega)]
    exact rt.2.1
  · rw [st_s, up_s]
  · rw [st_n (by omega), st_s]
    unfold goU
    by_cases q : a = i
    · rw [if_pos q, q, up_s, plI_s]
    · rw [if_neg q, up_n q, st_n (by omega)]
      exact rt.2.2.2 a ha
  · have ha2 : a ≠ 39 := by simpa using ha
    rw [st_s, up_n ha2, st_n (by omega), st_n (by omega)]
-- who went in this week: what the tally knows of it
def GD (n w fi0 : Nat) (A0 : Nat → AL) (go0 : Nat → Nat) (A : Nat → AL) (fi : Nat) (go : Nat → Nat) : Prop :=
  lfH A n ≤ lfH A0 n ∧ (∀ i : Nat, i < n → A0 i 7 = 1 → A i 7 = 1) ∧ fi = fiN fi0 w (lfH A0 n) (lfH A n) ∧ ∀ i : Nat, i < n → go i = if A i 7 = 1 ∧ ¬ A0 i 7 = 1 then w + 1 else go0 i
theorem lfH_same {A B : Nat → AL} : ∀ n : Nat, (∀ i : Nat, i < n → B i 7 = A i 7) → lfH B n = lfH A n := by
  intro n
  induction n with
  | zero => exact fun _ => rfl
  | succ n ih =>
    intro h
    unfold lfH
    rw [ih (fun i hi => h i (by omega)), h n (by omega)]
theorem lfH_new {A B : Nat → AL} {i : Nat} : ∀ n : Nat, i < n → ¬ A i 7 = 1 → B i 7 = 1 → (∀ j : Nat, j ≠ i → B j 7 = A j 7) → lfH B n + 1 = lfH A n := by
  intro n
  induction n with
  | zero => intro h; omega
  | succ n ih =>
    intro hi ha hb hs
    unfold lfH
    by_cases q : i = n
    · subst q
      rw [lfH_same i (fun j hj => hs j (by omega)), if_pos hb, if_neg ha]
    · rw [← ih (by omega) ha hb hs, hs n (by omega)]
      omega
theorem GD.rf (n w fi0 : Nat) (A0 : Nat → AL) (go0 : Nat → Nat) : GD n w fi0 A0 go0 A0 fi0 go0 := by
  refine ⟨Nat.le_refl _, fun _ _ h => h, ?_, fun i _ => ?_⟩
  · unfold fiN
    rw [if_neg (fun z => absurd z.2 (Nat.lt_irrefl _))]
  · rw [if_neg (fun z => z.2 z.1)]
theorem GD.same {n w fi0 fi : Nat} {A0 A B : Nat → AL} {go0 go : Nat → Nat} (h : GD n w fi0 A0 go0 A fi go) (hs : ∀ i : Nat, i < n → B i 7 = A i 7) : GD n w fi0 A0 go0 B fi go := by
  have hl := lfH_same n hs
  refine ⟨by rw [hl]; exact h.1, fun i hi h0 => by rw [hs i hi]; exact h.2.1 i hi h0, by rw [hl]; exact h.2.2.1, fun i hi => by rw [hs i hi]; exact h.2.2.2 i hi⟩
theorem GD.new {n w fi0 fi i : Nat} {A0 A B : Nat → AL} {go0 go : Nat → Nat} (h : GD n w fi0 A0 go0 A fi go) (hi : i < n) (ha : ¬ A i 7 = 1) (hb : B i 7 = 1) (hs : ∀ j : Nat, j ≠ i → B j 7 = A j 7) : GD n w fi0 A0 go0 B (fiW fi w) (goU go i w) := by
  have hl := lfH_new n hi ha hb hs
  have h1 := h.1
  refine ⟨by omega, fun j hj h0 => ?_, ?_, fun j hj => ?_⟩
  · by_cases q : j = i
    · rw [q]
      exact hb
    · rw [hs j q]
      exact h.2.1 j hj h0
  · rw [h.2.2.1]
    unfold fiW fiN
    by_cases q : fi0 = 0
    · rw [if_pos (show fi0 = 0 ∧ lfH B n < lfH A0 n from ⟨q, by omega⟩)]
      by_cases q2 : lfH A n < lfH A0 n
      · rw [if_pos (show fi0 = 0 ∧ lfH A n < lfH A0 n from ⟨q, q2⟩), if_neg (by omega)]
      · have e : (if fi0 = 0 ∧ lfH A n < lfH A0 n then w + 1 else fi0) = fi0 := if_neg (fun z => q2 z.2)
        rw [e, if_pos q]
    · rw [if_neg (show ¬ (fi0 = 0 ∧ lfH A n < lfH A0 n) from fun z => q z.1), if_neg q, if_neg (fun z => q z.1)]
  · unfold goU
    by_cases q : j = i
    · subst q
      rw [if_pos rfl, if_pos ⟨hb, fun z => ha (h.2.1 j hi z)⟩]
    · rw [if_neg q, hs j q]
      exact h.2.2.2 j hj
theorem GD.fi {n w fi0 fi : Nat} {A0 A : Nat → AL} {go0 go : Nat → Nat} (h : GD n w fi0 A0 go0 A fi go) (hf : fi0 ≤ w) : fi ≤ w + 1 := by
  rw [h.2.2.1]
  exact fiN_le hf
theorem r7wears {m : qaM} {i N : Nat} {H : HS} {S : SF} (c : MH m H) (v : HV H) (t : TXr m N S) (sv : SV S) (hN : H.lw < N) (hi : i < H.n) : ∃ m2, f_X7_wearsOf m (nI i) = some (nI (waB (H.A i) (S H.lw 0 (nmA H (H.A i)))), m2) ∧ qF [54, 55] m m2 := by
  have h8 := v.n8
  have a0 := (v.av i).1
  have a1 := (v.av i).2.1
  have a2 := (v.av i).2.2.1
  obtain ⟨m2, e1, e2⟩ := r7asksOf c t hN (p := 0) (by omega) (nI (H.A i 2)) (nI (H.A i 4)) (nI (H.A i 1)) (nI (H.A i 5))
  have hs := sv H.lw 0 (nmA H (H.A i))
  obtain ⟨s, hse⟩ : ∃ s, s = S H.lw 0 (nmA H (H.A i)) := ⟨_, rfl⟩
  have e1' : f_X7_asksOf m (nI 0) (nI (H.A i 2)) (nI (H.A i 4)) (nI (H.A i 1)) (nI (H.A i 5)) = some (nI s, m2) := by rw [hse]; exact e1
  rw [← hse] at hs ⊢
  have r0 : m 39 (6 * i) = nI (H.A i 2) := r7row c hi (k := 0) (by omega) (by omega)
  have r2 : m 39 (6 * i + 2) = nI (H.A i 4) := r7row c hi (k := 2) (by omega) (by omega)
  have r3 : m 39 (6 * i + 3) = nI (H.A i 5) := r7row c hi (k := 3) (by omega) (by omega)
  have rm := c.1.2.1 i hi
  have rk : m2 37 i = nI (H.A i 0) := by
    rw [e2 37 (by decide)]
    exact c.1.1 i hi
  have r02 : m2 39 (6 * i) = nI (H.A i 2) := by
    rw [e2 39 (by decide)]
    exact r0
  have hmax : ∀ a b : Nat, a ≤ 99 → b ≤ 9 → b_X7_wearsOf_156 m2 (nI a - nI b) = some (nI (a - b), m2) := by
    intro a b ha hb
    unfold b_X7_wearsOf_156
    rcases Nat.lt_or_ge a b with q | q
    · rw [pu_subm q, if_neg (by rw [Int32.le_iff_toInt_le, nM_t (by omega)]; have : (0 : Int32).toInt = 0 := by decide
                                omega), show a - b = 0 by omega]
      rfl
    · rw [pu_sub q, if_pos (by rw [li_0]; exact nI_le (by omega) (by omega))]
  have hpos : ∀ a : Nat, a ≤ 999 → b_X7_wearsOf_156 m2 (nI a) = some (nI a, m2) := by
    intro a ha
    unfold b_X7_wearsOf_156
    rw [if_pos (by rw [li_0]; exact nI_le (by omega) (by omega))]
  refine ⟨m2, ?_, e2⟩
  unfold f_X7_wearsOf waB
  ((try simp only [li_0, li_1, li_2, li_3, li_4, li_5, li_6, li_7, li_8, li_9, li_10, li_11, li_12, li_13, li_14, li_15, li_16, li_17, li_18, li_19, li_20, li_30, li_31, li_32, li_33, li_40, li_41, li_42, li_43, li_45, li_48, li_56, li_57, li_59, li_60, li_61, li_64, li_91, li_97, li_99, li_100, li_122, li_150, li_160, li_200, li_201, li_255, li_300, li_303, li_304, li_305, li_306, li_312, li_400, li_500, li_999, li_1003, li_3099, li_99999, li_100000, li_neg]); simp (disch := omega) only [ic_le_f, ic_le_t, ic_lt_f, ic_lt_t, ic_eq_f, ic_eq_t, ic_im, ic_mi, ic_mm_t, ic_mm_f, ic_mlt, ic_mle, ic_ilem, ic_iltm, ic_mmle_t, ic_mmle_f, pu_add, pu_mul, pu_in, pu_ck, pu_let, pu_cl, pu_cpok, pu_inr, Option.bind_some, ite_true, ite_false])
  rw [r0, r2, rm, r3, e1']
  ((try simp only [li_0, li_1, li_2, li_3, li_4, li_5, li_6, li_7, li_8, li_9, li_10, li_11, li_12, li_13, li_14, li_15, li_16, li_17, li_18, li_19, li_20, li_30, li_31, li_32, li_33, li_40, li_41, li_42, li_43, li_45, li_48, li_56, li_57, li_59, li_60, li_61, li_64, li_91, li_97, li_99, li_100, li_122, li_150, li_160, li_200, li_201, li_255, li_300, li_303, li_304, li_305, li_306, li_312, li_400, li_500, li_999, li_1003, li_3099, li_99999, li_100000, li_neg]); simp (disch := omega) only [ic_le_f, ic_le_t, ic_lt_f, ic_lt_t, ic_eq_f, ic_eq_t, ic_im, ic_mi, ic_mm_t, ic_mm_f, ic_mlt, ic_mle, ic_ilem, ic_iltm, ic_mmle_t, ic_mmle_f, pu_add, pu_mul, pu_in, pu_ck, pu_let, pu_cl, pu_cpok, pu_inr, Option.bind_some, ite_true, ite_false])
  rw [rk, r02]
  by_cases q1 : H.A i 0 = 1
  · rw [if_pos q1, q1]
    ((try simp only [b_X7_wearsOf_84, li_0, li_1, li_2, li_3, li_4, li_5, li_6, li_7, li_8, li_9, li_10, li_11, li_12, li_13, li_14, li_15, li_16, li_17, li_18, li_19, li_20, li_30, li_31, li_32, li_33, li_40, li_41, li_42, li_43, li_45, li_48, li_56, li_57, li_59, li_60, li_61, li_64, li_91, li_97, li_99, li_100, li_122, li_150, li_160, li_200, li_201, li_255, li_300, li_303, li_304, li_305, li_306, li_312, li_400, li_500, li_999, li_1003, li_3099, li_99999, li_100000, li_neg]); simp (disch := omega) only [b_X7_wearsOf_84, ic_le_f, ic_le_t, ic_lt_f, ic_lt_t, ic_eq_f, ic_eq_t, ic_im, ic_mi, ic_mm_t, ic_mm_f, ic_mlt, ic_mle, ic_ilem, ic_iltm, ic_mmle_t, ic_mmle_f, pu_add, pu_mul, pu_in, pu_ck, pu_let, pu_cl, pu_cpok, pu_inr, Option.bind_some, ite_true, ite_false])
    rw [pk_div (by omega) (by omega) (by omega), hmax _ _ (by omega) (by omega)]
  rw [if_neg q1]
  by_cases q2 : H.A i 0 = 2
  · rw [if_pos q2, q2]
    by_cases q : H.A i 2 ≤ 200
    · rw [if_pos q]
      ((try simp only [b_X7_wearsOf_114, li_0, li_1, li_2, li_3, li_4, li_5, li_6, li_7, li_8, li_9, li_10, li_11, li_12, li_13, li_14, li_15, li_16, li_17, li_18, li_19, li_20, li_30, li_31, li_32, li_33, li_40, li_41, li_42, li_43, li_45, li_48, li_56, li_57, li_59, li_60, li_61, li_64, li_91, li_97, li_99, li_100, li_122, li_150, li_160, li_200, li_201, li_255, li_300, li_303, li_304, li_305, li_306, li_312, li_400, li_500, li_999, li_1003, li_3099, li_99999, li_100000, li_neg]); simp (disch := omega) only [b_X7_wearsOf_114, ic_le_f, ic_le_t, ic_lt_f, ic_lt_t, ic_eq_f, ic_eq_t, ic_im, ic_mi, ic_mm_t, ic_mm_f, ic_mlt, ic_mle, ic_ilem, ic_iltm, ic_mmle_t, ic_mmle_f, pu_add, pu_mul, pu_in, pu_ck, pu_let, pu_cl, pu_cpok, pu_inr, Option.bind_some, ite_true, ite_false])
      rw [hpos _ (by omega)]
    · rw [if_neg q]
      ((try simp only [b_X7_wearsOf_114, li_0, li_1, li_2, li_3, li_4, li_5, li_6, li_7, li_8, li_9, li_10, li_11, li_12, li_13, li_14, li_15, li_16, li_17, li_18, li_19, li_20, li_30, li_31, li_32, li_33, li_40, li_41, li_42, li_43, li_45, li_48, li_56, li_57, li_59, li_60, li_61, li_64, li_91, li_97, li_99, li_100, li_122, li_150, li_160, li_200, li_201, li_255, li_300, li_303, li_304, li_305, li_306, li_312, li_400, li_500, li_999, li_1003, li_3099, li_99999, li_100000, li_neg]); simp (disch := omega) only [b_X7_wearsOf_114, ic_le_f, ic_le_t, ic_lt_f, ic_lt_t, ic_eq_f, ic_eq_t, ic_im, ic_mi, ic_mm_t, ic_mm_f, ic_mlt, ic_mle, ic_ilem, ic_iltm, ic_mmle_t, ic_mmle_f, pu_add, pu_mul, pu_in, pu_ck, pu_let, pu_cl, pu_cpok, pu_inr, Option.bind_some, ite_true, ite_false])
      rw [hpos _ (by omega)]
  rw [if_neg q2]
  by_cases q3 : H.A i 0 = 3
  · rw [if_pos q3, q3]
    ((try simp only [b_X7_wearsOf_84, li_0, li_1, li_2, li_3, li_4, li_5, li_6, li_7, li_8, li_9, li_10, li_11, li_12, li_13, li_14, li_15, li_16, li_17, li_18, li_19, li_20, li_30, li_31, li_32, li_33, li_40, li_41, li_42, li_43, li_45, li_48, li_56, li_57, li_59, li_60, li_61, li_64, li_91, li_97, li_99, li_100, li_122, li_150, li_160, li_200, li_201, li_255, li_300, li_303, li_304, li_305, li_306, li_312, li_400, li_500, li_999, li_1003, li_3099, li_99999, li_100000, li_neg]); simp (disch := omega) only [b_X7_wearsOf_84, ic_le_f, ic_le_t, ic_lt_f, ic_lt_t, ic_eq_f, ic_eq_t, ic_im, ic_mi, ic_mm_t, ic_mm_f, ic_mlt, ic_mle, ic_ilem, ic_iltm, ic_mmle_t, ic_mmle_f, pu_add, pu_mul, pu_in, pu_ck, pu_let, pu_cl, pu_cpok, pu_inr, Option.bind_some, ite_true, ite_false])
    rw [pk_div (by omega) (by omega) (by omega), hmax _ _ (by omega) (by omega)]
  rw [if_neg q3]
  by_cases q4 : H.A i 0 = 4
  · rw [if_pos q4, q4]
    by_cases q : H.A i 2 ≤ 200
    · rw [if_pos q]
      ((try simp only [b_X7_wearsOf_141, li_0, li_1, li_2, li_3, li_4, li_5, li_6, li_7, li_8, li_9, li_10, li_11, li_12, li_13, li_14, li_15, li_16, li_17, li_18, li_19, li_20, li_30, li_31, li_32, li_33, li_40, li_41, li_42, li_43, li_45, li_48, li_56, li_57, li_59, li_60, li_61, li_64, li_91, li_97, li_99, li_100, li_122, li_150, li_160, li_200, li_201, li_255, li_300, li_303, li_304, li_305, li_306, li_312, li_400, li_500, li_999, li_1003, li_3099, li_99999, li_100000, li_neg]); simp (disch := omega) only [b_X7_wearsOf_141, ic_le_f, ic_le_t, ic_lt_f, ic_lt_t, ic_eq_f, ic_eq_t, ic_im, ic_mi, ic_mm_t, ic_mm_f, ic_mlt, ic_mle, ic_ilem, ic_iltm, ic_mmle_t, ic_mmle_f, pu_add, pu_mul, pu_in, pu_ck, pu_let, pu_cl, pu_cpok, pu_inr, Option.bind_some, ite_true, ite_false])
      rw [hpos _ (by omega)]
    · rw [if_neg q]
      ((try simp only [b_X7_wearsOf_141, li_0, li_1, li_2, li_3, li_4, li_5, li_6, li_7, li_8, li_9, li_10, li_11, li_12, li_13, li_14, li_15, li_16, li_17, li_18, li_19, li_20, li_30, li_31, li_32, li_33, li_40, li_41, li_42, li_43, li_45, li_48, li_56, li_57, li_59, li_60, li_61, li_64, li_91, li_97, li_99, li_100, li_122, li_150, li_160, li_200, li_201, li_255, li_300, li_303, li_304, li_305, li_306, li_312, li_400, li_500, li_999, li_1003, li_3099, li_99999, li_100000, li_neg]); simp (disch := omega) only [b_X7_wearsOf_141, ic_le_f, ic_le_t, ic_lt_f, ic_lt_t, ic_eq_f, ic_eq_t, ic_im, ic_mi, ic_mm_t, ic_mm_f, ic_mlt, ic_mle, ic_ilem, ic_iltm, ic_mmle_t, ic_mmle_f, pu_add, pu_mul, pu_in, pu_ck, pu_let, pu_cl, pu_cpok, pu_inr, Option.bind_some, ite_true, ite_false])
      rw [hpos _ (by omega), Nat.add_assoc]
  rw [if_neg q4]
  by_cases q5 : H.A i 0 = 5
  · rw [if_pos q5, q5]
    ((try simp only [li_0, li_1, li_2, li_3, li_4, li_5, li_6, li_7, li_8, li_9, li_10, li_11, li_12, li_13, li_14, li_15, li_16, li_17, li_18, li_19, li_20, li_30, li_31, li_32, li_33, li_40, li_41, li_42, li_43, li_45, li_48, li_56, li_57, li_59, li_60, li_61, li_64, li_91, li_97, li_99, li_100, li_122, li_150, li_160, li_200, li_201, li_255, li_300, li_303, li_304, li_305, li_306, li_312, li_400, li_500, li_999, li_1003, li_3099, li_99999, li_100000, li_neg]); simp (disch := omega) only [ic_le_f, ic_le_t, ic_lt_f, ic_lt_t, ic_eq_f, ic_eq_t, ic_im, ic_mi, ic_mm_t, ic_mm_f, ic_mlt, ic_mle, ic_ilem, ic_iltm, ic_mmle_t, ic_mmle_f, pu_add, pu_mul, pu_in, pu_ck, pu_let, pu_cl, pu_cpok, pu_inr, Option.bind_some, ite_true, ite_false])
    rw [pk_div (by omega) (by omega) (by omega), hpos _ (by omega)]
  rw [if_neg q5]
  ((try simp only [li_0, li_1, li_2, li_3, li_4, li_5, li_6, li_7, li_8, li_9, li_10, li_11, li_12, li_13, li_14, li_15, li_16, li_17, li_18, li_19, li_20, li_30, li_31, li_32, li_33, li_40, li_41, li_42, li_43, li_45, li_48, li_56, li_57, li_59, li_60, li_61, li_64, li_91, li_97, li_99, li_100, li_122, li_150, li_160, li_200, li_201, li_255, li_300, li_303, li_304, li_305, li_306, li_312, li_400, li_500, li_999, li_1003, li_3099, li_99999, li_100000, li_neg]); simp (disch := omega) only [ic_le_f, ic_le_t, ic_lt_f, ic_lt_t, ic_eq_f, ic_eq_t, ic_im, ic_mi, ic_mm_t, ic_mm_f, ic_mlt, ic_mle, ic_ilem, ic_iltm, ic_mmle_t, ic_mmle_f, pu_add, pu_mul, pu_in, pu_ck, pu_let, pu_cl, pu_cpok, pu_inr, Option.bind_some, ite_true, ite_false])
  rw [hpos _ (by omega)]
theorem r7lasts {m : qaM} {i : Nat} {H : HS} (c : MH m H) (v : AV (H.A i)) (hi : i < H.n) (h8 : H.n ≤ 8) : f_X7_lastsOf m (nI i) = some (nI (lasA (H.A i))) := by
  have a0 := v.1
  have a1 := v.2.1
  have rm := c.1.2.1 i hi
  have rk := c.1.1 i hi
  unfold f_X7_lastsOf lasA
  ((try simp only [li_0, li_1, li_2, li_3, li_4, li_5, li_6, li_7, li_8, li_9, li_10, li_11, li_12, li_13, li_14, li_15, li_16, li_17, li_18, li_19, li_20, li_30, li_31, li_32, li_33, li_40, li_41, li_42, li_43, li_45, li_48, li_56, li_57, li_59, li_60, li_61, li_64, li_91, li_97, li_99, li_100, li_122, li_150, li_160, li_200, li_201, li_255, li_300, li_303, li_304, li_305, li_306, li_312, li_400, li_500, li_999, li_1003, li_3099, li_99999, li_100000, li_neg]); simp (disch := omega) only [ic_le_f, ic_le_t, ic_lt_f, ic_lt_t, ic_eq_f, ic_eq_t, ic_im, ic_mi, ic_mm_t, ic_mm_f, ic_mlt, ic_mle, ic_ilem, ic_iltm, ic_mmle_t, ic_mmle_f, pu_add, pu_mul, pu_in, pu_ck, pu_let, pu_cl, pu_cpok, pu_inr, Option.bind_some, ite_true, ite_false])
  rw [rm, rk]
  by_cases q2 : H.A i 0 = 2
  · rw [if_pos q2, q2]
    ((try simp only [li_0, li_1, li_2, li_3, li_4, li_5, li_6, li_7, li_8, li_9, li_10, li_11, li_12, li_13, li_14, li_15, li_16, li_17, li_18, li_19, li_20, li_30, li_31, li_32, li_33, li_40, li_41, li_42, li_43, li_45, li_48, li_56, li_57, li_59, li_60, li_61, li_64, li_91, li_97, li_99, li_100, li_122, li_150, li_160, li_200, li_201, li_255, li_300, li_303, li_304, li_305, li_306, li_312, li_400, li_500, li_999, li_1003, li_3099, li_99999, li_100000, li_neg]); simp (disch := omega) only [ic_le_f, ic_le_t, ic_lt_f, ic_lt_t, ic_eq_f, ic_eq_t, ic_im, ic_mi, ic_mm_t, ic_mm_f, ic_mlt, ic_mle, ic_ilem, ic_iltm, ic_mmle_t, ic_mmle_f, pu_add, pu_mul, pu_in, pu_ck, pu_let, pu_cl, pu_cpok, pu_inr, Option.bind_some, ite_true, ite_false])
    rw [pu_sub (by omega)]
  rw [if_neg q2]
  by_cases q3 : H.A i 0 = 3
  · rw [if_pos q3, q3]
    ((try simp only [li_0, li_1, li_2, li_3, li_4, li_5, li_6, li_7, li_8, li_9, li_10, li_11, li_12, li_13, li_14, li_15, li_16, li_17, li_18, li_19, li_20, li_30, li_31, li_32, li_33, li_40, li_41, li_42, li_43, li_45, li_48, li_56, li_57, li_59, li_60, li_61, li_64, li_91, li_97, li_99, li_100, li_122, li_150, li_160, li_200, li_201, li_255, li_300, li_303, li_304, li_305, li_306, li_312, li_400, li_500, li_999, li_1003, li_3099, li_99999, li_100000, li_neg]); simp (disch := omega) only [ic_le_f, ic_le_t, ic_lt_f, ic_lt_t, ic_eq_f, ic_eq_t, ic_im, ic_mi, ic_mm_t, ic_mm_f, ic_mlt, ic_mle, ic_ilem, ic_iltm, ic_mmle_t, ic_mmle_f, pu_add, pu_mul, pu_in, pu_ck, pu_let, pu_cl, pu_cpok, pu_inr, Option.bind_some, ite_true, ite_false])
  rw [if_neg q3]
  by_cases q4 : H.A i 0 = 4
  · rw [if_pos q4, q4]
    ((try simp only [li_0, li_1, li_2, li_3, li_4, li_5, li_6, li_7, li_8, li_9, li_10, li_11, li_12, li_13, li_14, li_15, li_16, li_17, li_18, li_19, li_20, li_30, li_31, li_32, li_33, li_40, li_41, li_42, li_43, li_45, li_48, li_56, li_57, li_59, li_60, li_61, li_64, li_91, li_97, li_99, li_100, li_122, li_150, li_160, li_200, li_201, li_255, li_300, li_303, li_304, li_305, li_306, li_312, li_400, li_500, li_999, li_1003, li_3099, li_99999, li_100000, li_neg]); simp (disch := omega) only [ic_le_f, ic_le_t, ic_lt_f, ic_lt_t, ic_eq_f, ic_eq_t, ic_im, ic_mi, ic_mm_t, ic_mm_f, ic_mlt, ic_mle, ic_ilem, ic_iltm, ic_mmle_t, ic_mmle_f, pu_add, pu_mul, pu_in, pu_ck, pu_let, pu_cl, pu_cpok, pu_inr, Option.bind_some, ite_true, ite_false])
    rw [pu_sub (by omega)]
  rw [if_neg q4]
  by_cases q5 : H.A i 0 = 5
  · rw [if_pos q5, q5]
    ((try simp only [li_0, li_1, li_2, li_3, li_4, li_5, li_6, li_7, li_8, li_9, li_10, li_11, li_12, li_13, li_14, li_15, li_16, li_17, li_18, li_19, li_20, li_30, li_31, li_32, li_33, li_40, li_41, li_42, li_43, li_45, li_48, li_56, li_57, li_59, li_60, li_61, li_64, li_91, li_97, li_99, li_100, li_122, li_150, li_160, li_200, li_201, li_255, li_300, li_303, li_304, li_305, li_306, li_312, li_400, li_500, li_999, li_1003, li_3099, li_99999, li_100000, li_neg]); simp (disch := omega) only [ic_le_f, ic_le_t, ic_lt_f, ic_lt_t, ic_eq_f, ic_eq_t, ic_im, ic_mi, ic_mm_t, ic_mm_f, ic_mlt, ic_mle, ic_ilem, ic_iltm, ic_mmle_t, ic_mmle_f, pu_add, pu_mul, pu_in, pu_ck, pu_let, pu_cl, pu_cpok, pu_inr, Option.bind_some, ite_true, ite_false])
  rw [if_neg q5]
  ((try simp only [li_0, li_1, li_2, li_3, li_4, li_5, li_6, li_7, li_8, li_9, li_10, li_11, li_12, li_13, li_14, li_15, li_16, li_17, li_18, li_19, li_20, li_30, li_31, li_32, li_33, li_40, li_41, li_42, li_43, li_45, li_48, li_56, li_57, li_59, li_60, li_61, li_64, li_91, li_97, li_99, li_100, li_122, li_150, li_160, li_200, li_201, li_255, li_300, li_303, li_304, li_305, li_306, li_312, li_400, li_500, li_999, li_1003, li_3099, li_99999, li_100000, li_neg]); simp (disch := omega) only [ic_le_f, ic_le_t, ic_lt_f, ic_lt_t, ic_eq_f, ic_eq_t, ic_im, ic_mi, ic_mm_t, ic_mm_f, ic_mlt, ic_mle, ic_ilem, ic_iltm, ic_mmle_t, ic_mmle_f, pu_add, pu_mul, pu_in, pu_ck, pu_let, pu_cl, pu_cpok, pu_inr, Option.bind_some, ite_true, ite_false])
