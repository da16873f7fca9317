/-! PURE: a house with other rules; enough, laundry -/
theorem HV.setR {H : HS} (h : HV H) {k v : Nat} (hv : v ≤ if k = 0 then 8 else if k = 3 then 2 else 3) : HV (H.setR k v) := by
  have vr := h.rs
  have hR : ∀ j : Nat, (H.setR k v).R j = if j = k then v else H.R j := fun _ => rfl
  refine ⟨h.1, h.2.1, h.2.2.1, h.2.2.2.1, h.2.2.2.2.1, h.2.2.2.2.2.1, ?_⟩
  rw [hR, hR, hR, hR]
  refine ⟨?_, ?_, ?_, ?_, vr.2.2.2.2⟩
  all_goals
    split
    · subst_vars
      simp at hv
      omega
    · omega
theorem CH.setR {m : qaM} {h k v : Nat} {H : HS} (c : CH m h H) (hk : k < 4) : CH (qa_st m (h + 5) k (nI v)) h (H.setR k v) := by
  have f := qF.st m (h + 5) k (nI v)
  refine ⟨c.1.F f (by simp) (by simp), c.2.1.F f (by simp) (by simp), fun j hj => ?_, ?_⟩
  · rw [st_s]
    show _ = nI (if j = k then v else H.R j)
    by_cases q : j = k
    · rw [if_pos q, q, up_s]
    · rw [if_neg q, up_n q]
      exact c.2.2.1 j hj
  · rw [f h (by simp <;> omega)]
    exact c.2.2.2
theorem CT.F {m m2 : qaM} {h tf ou fi li : Nat} {l : List Nat} (c : CT m h tf ou fi li) (f : qF l m m2) (hh : h ∉ l) : CT m2 h tf ou fi li := by
  unfold CT
  rw [f h hh]
  exact c
theorem CY.setR {m : qaM} {h k v : Nat} {H : HS} (c : CY m h (ty0 H)) (hk : k < 4) : CY (qa_st m (h + 5) k (nI v)) h (ty0 (H.setR k v)) :=
  ⟨c.1.setR hk, c.2.F (qF.st m (h + 5) k (nI v)) (by simp <;> omega)⟩
theorem MH.setR {m : qaM} {k v : Nat} {H : HS} (c : MH m H) (hk : k < 4) : MH (qa_st m 41 k (nI v)) (H.setR k v) := by
  have f := qF.st m 41 k (nI v)
  refine ⟨c.1.F f (by simp) (by simp) (by simp), ?_, fun j hj => ?_, ?_⟩
  · have h2 := c.2.1
    unfold RP at h2 ⊢
    rw [f 36 (by simp), f 40 (by simp)]
    exact h2
  · rw [st_s]
    show _ = nI (if j = k then v else H.R j)
    by_cases q : j = k
    · rw [if_pos q, q, up_s]
    · rw [if_neg q, up_n q]
      exact c.2.2.1 j hj
  · rw [f 36 (by simp)]
    exact c.2.2.2
theorem MH.cg {m : qaM} {H K : HS} (c : MH m H) (e1 : K.n = H.n) (e2 : K.A = H.A) (e3 : K.P = H.P) (e4 : ∀ k : Nat, k < 4 → K.R k = H.R k) (e5 : K.wk = H.wk) (e6 : K.lw = H.lw) : MH m K := by
  unfold MH
  rw [e1, e2, e3, e5, e6]
  exact ⟨c.1, c.2.1, fun k hk => by rw [e4 k hk]; exact c.2.2.1 k hk, c.2.2.2⟩
/-- what a house comes to in n weeks by its rules -/
def thk (S : SF) (n : Nat) (K : HS) : TY := seqT S (wR K) n (ty0 K)
theorem thk_V {S : SF} {n : Nat} {K : HS} (v : HV K) : TV (thk S n K) ∧ HK K (thk S n K).1 := by
  have h := seqT_V (S := S) (w := wR K) (ty0_V v) n
  exact ⟨h.1, h.2.1⟩
/-- the class's cells that thinking changes; the reference's -/
def kL : List Nat := [4, 5, 20, 21, 22, 23, 24, 25]
def rL : List Nat := [36, 37, 38, 39, 40, 41, 54, 55, 56, 57, 58, 59]
def oL : List Nat := [37, 38, 39, 43, 44]
theorem kthk {m0 m : qaM} {K : HS} {S : SF} {n N : Nat} (c : CY m 20 (ty0 K)) (v : HV K) (t : TXc m N S) (sv : SV S) (hN : K.lw < N) (hn : n ≤ 300) (f : qF kL m0 m) :
    ∃ m1, f_X0_livesWeeks 20 m (nI n) = some m1 ∧ CY m1 20 (thk S n K) ∧ qF kL m0 m1 := by
  obtain ⟨m2, b1, b2, b3⟩ := kweeks (n := n) c (ty0_V v) (by omega) t sv hN hn (show 0 < 2 ^ 20 by decide)
  exact ⟨m2, b1, b2, f.t2 b3 (by simp [kL])⟩
theorem kbeg {m0 m : qaM} {H : HS} (c : CH m 8 H) (f : qF kL m0 m) : ∃ m1, f_X0_beginsAs 20 8 m = some m1 ∧ CY m1 20 (ty0 H) ∧ qF kL m0 m1 := by
  obtain ⟨m1, a1, a2, a3⟩ := kbegins (h := 20) c (by omega)
  exact ⟨m1, a1, a2, f.t2 a3 (by simp [kL])⟩
theorem CH.kL {m0 m : qaM} {H : HS} (c : CH m0 8 H) (f : qF kL m0 m) : CH m 8 H := c.F f (by decide) (by decide) (by decide) (by decide) (by decide) (by decide)
theorem TXc.kL {m0 m : qaM} {N : Nat} {S : SF} (t : TXc m0 N S) (f : qF kL m0 m) : TXc m N S := t.F f (by decide) (by decide) (by decide)
theorem TXr.rL {m0 m : qaM} {N : Nat} {S : SF} (t : TXr m0 N S) (f : qF rL m0 m) : TXr m N S := t.F f (by decide) (by decide)
theorem r7thk {m0 m : qaM} {K : HS} {S : SF} {n N : Nat} (c : MH m K) (v : HV K) (t : TXr m N S) (sv : SV S) (hN : K.lw < N) (hn : n ≤ 300) (f : qF rL m0 m) (o : o36l oL m0 m) :
    ∃ m2 go, f_X7_goes m (nI n) = some m2 ∧ MH m2 K ∧ RTY m2 (thk S n K) go ∧ LR m2 K.n (thk S n K).1.A ∧ qF rL m0 m2 ∧ o36l oL m0 m2 := by
  obtain ⟨m2, b1, b2, ⟨go, b3, _⟩, b4, b5, b6⟩ := r7goes c v t sv hN hn
  exact ⟨m2, go, b1, b2, b3, b4, f.t2 b5 (by simp [rL]), o.tr b6 (fun _ z => z) (fun _ z => z)⟩
/-- what only thinks, by these lists -/
theorem Rel.thk {m m1 m2 : qaM} {H : HS} {N : Nat} {S : SF} (h : RelD m H N S) (f1 : qF kL m m1) (f2 : qF rL m1 m2) (o2 : o36l oL m1 m2) (c2 : MH m2 H) : Rel m2 :=
  Rel.think h (f1.mo (by simp [kL])) (f2.mo (by simp [rL])) (o2.tr (o36l.rf [] _) (by simp [oL]) (by simp)) c2
theorem kthinksWith {m0 m : qaM} {H : HS} {S : SF} {what v n N : Nat} (c : CH m 8 H) (hv : HV H) (t : TXc m N S) (sv : SV S) (hN : H.lw < N) (hn : n ≤ 300) (hk : what < 4) (hb : v ≤ if what = 0 then 8 else if what = 3 then 2 else 3) (f : qF kL m0 m) :
    ∃ m1, f_X6_thinksWith m (nI what) (nI v) (nI n) = some m1 ∧ CY m1 20 (thk S n (H.setR what v)) ∧ qF kL m0 m1 := by
  obtain ⟨m1, a1, a2, a3⟩ := kbeg c (qF.rf _ m)
  have a4 := a2.setR (k := what) (v := v) hk
  have f4 : qF kL m (qa_st m1 25 what (nI v)) := a3.stl (by simp [kL])
  obtain ⟨m2, b1, b2, b3⟩ := kthk (n := n) a4 (hv.setR hb) (t.kL f4) sv hN hn f4
  refine ⟨m2, ?_, b2, f.t2 b3 (fun _ z => z)⟩
  unfold f_X6_thinksWith
  rw [a1]
  ((try simp only [b_X6_thinksWith_30, li_0, li_1, li_2, li_3, li_4, li_5, li_6, li_7, li_8, li_9, li_10, li_11, li_12, li_13, li_14, li_15, li_16, li_17, li_18, li_19, li_20, li_30, li_31, li_32, li_33, li_40, li_41, li_42, li_43, li_45, li_48, li_56, li_57, li_59, li_60, li_61, li_64, li_91, li_97, li_99, li_100, li_122, li_150, li_160, li_200, li_201, li_255, li_300, li_303, li_304, li_305, li_306, li_312, li_400, li_500, li_999, li_1003, li_3099, li_99999, li_100000, li_1000000, li_65, li_23, li_neg]); simp (disch := omega) only [b_X6_thinksWith_30, ic_le_f, ic_le_t, ic_lt_f, ic_lt_t, ic_eq_f, ic_eq_t, ic_im, ic_mi, ic_mm_t, ic_mm_f, ic_mlt, ic_mle, ic_ilem, ic_iltm, ic_mmle_t, ic_mmle_f, pu_add, pu_mul, pu_in, pu_ck, pu_let, pu_cl, pu_cpok, pu_inr, Option.bind_some, ite_true, ite_false])
  rw [b1, Option.bind_some]
theorem r7tooFewBy {m0 m : qaM} {H : HS} {S : SF} {what v n N : Nat} (c : MH m H) (hv : HV H) (t : TXr m N S) (sv : SV S) (hN : H.lw < N) (hn : n ≤ 300) (hk : what < 4) (hb : v ≤ if what = 0 then 8 else if what = 3 then 2 else 3) (f : qF rL m0 m) (o : o36l oL m0 m) :
    ∃ m2, f_X7_tooFewBy m (nI what) (nI v) (nI n) = some (nI (thk S n (H.setR what v)).2.1, m2) ∧ MH m2 H ∧ qF rL m0 m2 ∧ o36l oL m0 m2 := by
  have h1 : m 41 what = nI (H.R what) := c.2.2.1 what hk
  have f1 : qF [41] m (qa_st m 41 what (nI v)) := qF.st _ _ _ _
  obtain ⟨m2, go, b1, b2, b3, b4, b5, b6⟩ := r7thk (n := n) (c.setR (v := v) hk) (hv.setR hb) (t.F f1 (by simp) (by simp)) sv hN hn (f.t2 f1 (by simp [rL])) (o.tr (o36l.q (k := []) f1 (by simp)) (fun _ z => z) (by simp))
  have b7 := (b2.setR (v := H.R what) hk)
  refine ⟨qa_st m2 41 what (nI (H.R what)), ?_, b7.cg rfl rfl rfl (fun k _ => ?_) rfl rfl, b5.stl (by simp [rL]), b6.tr (o36l.q (k := []) (qF.st _ _ _ _) (by simp)) (fun _ z => z) (by simp)⟩
  · unfold f_X7_tooFewBy
    ((try simp only [li_0, li_1, li_2, li_3, li_4, li_5, li_6, li_7, li_8, li_9, li_10, li_11, li_12, li_13, li_14, li_15, li_16, li_17, li_18, li_19, li_20, li_30, li_31, li_32, li_33, li_40, li_41, li_42, li_43, li_45, li_48, li_56, li_57, li_59, li_60, li_61, li_64, li_91, li_97, li_99, li_100, li_122, li_150, li_160, li_200, li_201, li_255, li_300, li_303, li_304, li_305, li_306, li_312, li_400, li_500, li_999, li_1003, li_3099, li_99999, li_100000, li_1000000, li_65, li_23, li_neg]); simp (disch := omega) only [ic_le_f, ic_le_t, ic_lt_f, ic_lt_t, ic_eq_f, ic_eq_t, ic_im, ic_mi, ic_mm_t, ic_mm_f, ic_mlt, ic_mle, ic_ilem, ic_iltm, ic_mmle_t, ic_mmle_f, pu_add, pu_mul, pu_in, pu_ck, pu_let, pu_cl, pu_cpok, pu_inr, Option.bind_some, ite_true, ite_false])
    rw [h1, b1, Option.bind_some, st_n (by omega), b3.1]
  · show H.R k = (if k = what then H.R what else if k = what then v else H.R k)
    by_cases q : k = what
    · rw [if_pos q, q]
    · rw [if_neg q, if_neg q]
/-- the greatest of 1, 2 .. such that all up to it do -/
def enF (g : Nat → Int32) : Nat → Nat
  | 0 => 0
  | j + 1 => if enF g j = j ∧ g (j + 1) = nI 0 then j + 1 else enF g j
theorem enF_le (g : Nat → Int32) (j : Nat) : enF g j ≤ j := by
  induction j with
  | zero => exact Nat.le_refl _
  | succ j ih =>
    unfold enF
    split <;> omega
theorem enF_st {g : Nat → Int32} {j : Nat} (h : enF g j ≠ j) : ∀ d : Nat, enF g (j + d) = enF g j := by
  intro d
  induction d with
  | zero => rfl
  | succ d ih =>
    have := enF_le g j
    show enF g (j + d + 1) = _
    rw [enF, if_neg (by rw [ih]; omega), ih]
theorem qp_enough : qaP_enough Rel := by
  intro m a h
  obtain ⟨H, N, S, hD⟩ := h
  have ⟨c, r, v, hl, hw, t, _, _, _, nt⟩ := hD
  rcases upTo 200 201 rfl (by omega) a with ⟨n, hn, rfl⟩ | hx
  rotate_left
  · rcases hx with ⟨h1, h2, h3, h4, h5, h6⟩ | ⟨h1, h2, h3, h4, h5, h6⟩
    all_goals
      refine ⟨nM 2, m, m, ?_, ?_, Rel.mk hD⟩
      · ((try simp only [f_X6_enough, f_X6_isWeeks, f_X6_isSheet, f_X6_isSeed, f_X6_isByte, h1, h2, h3, h4, h5, h6, li_0, li_1, li_2, li_3, li_4, li_5, li_6, li_7, li_8, li_9, li_10, li_11, li_12, li_13, li_14, li_15, li_16, li_17, li_18, li_19, li_20, li_30, li_31, li_32, li_33, li_40, li_41, li_42, li_43, li_45, li_48, li_56, li_57, li_59, li_60, li_61, li_64, li_91, li_97, li_99, li_100, li_122, li_150, li_160, li_200, li_201, li_255, li_300, li_303, li_304, li_305, li_306, li_312, li_400, li_500, li_999, li_1003, li_3099, li_99999, li_100000, li_1000000, li_65, li_23, li_neg]); (try simp (disch := omega) only [f_X6_enough, f_X6_isWeeks, f_X6_isSheet, f_X6_isSeed, f_X6_isByte, h1, h2, h3, h4, h5, h6, ic_le_f, ic_le_t, ic_lt_f, ic_lt_t, ic_eq_f, ic_eq_t, ic_im, ic_mi, ic_mm_t, ic_mm_f, ic_mlt, ic_mle, ic_ilem, ic_iltm, ic_mmle_t, ic_mmle_f, pu_add, pu_mul, pu_in, pu_ck, pu_let, pu_cl, pu_cpok, pu_inr, Option.bind_some, ite_true, ite_false, pu_dm, pu_dv, pu_sub, nt_dm, if_true, if_false]))
      · ((try simp only [f_X7_enough, f_X7_in, f_X7_areWeeks, f_X7_isByte, qa_bl0, qa_bl1, h1, h2, h3, h4, h5, h6, li_0, li_1, li_2, li_3, li_4, li_5, li_6, li_7, li_8, li_9, li_10, li_11, li_12, li_13, li_14, li_15, li_16, li_17, li_18, li_19, li_20, li_30, li_31, li_32, li_33, li_40, li_41, li_42, li_43, li_45, li_48, li_56, li_57, li_59, li_60, li_61, li_64, li_91, li_97, li_99, li_100, li_122, li_150, li_160, li_200, li_201, li_255, li_300, li_303, li_304, li_305, li_306, li_312, li_400, li_500, li_999, li_1003, li_3099, li_99999, li_100000, li_1000000, li_65, li_23, li_neg]); (try simp (disch := omega) only [f_X7_enough, f_X7_in, f_X7_areWeeks, f_X7_isByte, qa_bl0, qa_bl1, h1, h2, h3, h4, h5, h6, ic_le_f, ic_le_t, ic_lt_f, ic_lt_t, ic_eq_f, ic_eq_t, ic_im, ic_mi, ic_mm_t, ic_mm_f, ic_mlt, ic_mle, ic_ilem, ic_iltm, ic_mmle_t, ic_mmle_f, pu_add, pu_mul, pu_in, pu_ck, pu_let, pu_cl, pu_cpok, pu_inr, Option.bind_some, ite_true, ite_false, pu_dm, pu_dv, pu_sub, nt_dm, if_true, if_false]))
  obtain ⟨g, hg⟩ : ∃ g : Nat → Int32, ∀ w, g w = nI (thk S n (H.setR 0 w)).2.1 := ⟨_, fun _ => rfl⟩
  have hgr : qa_gr 0 = nI 8 := by decide
  obtain ⟨r1, a1, a2, a3, _⟩ := lp_at (f := fun s : qaM × Int32 × Int32 => b_X6_enough_14 s.1 (nI n) s.2.1 s.2.2) (fun j s => s.2 = (nI (enF g j), nI (j + 1)) ∧ qF kL m s.1) (fun q => q.1 = nI (enF g 8) ∧ qF kL m q.2 ∧ True) 8 (s := (m, nI 0, nI 1)) ⟨rfl, qF.rf _ _⟩ (by omega) (by
    rintro j ⟨x, k⟩ hj ⟨hk, hf⟩
    have hk2 : k = (nI (enF g j), nI (j + 1)) := hk
    replace hf : qF kL m x := hf
    subst hk2
    have hle := enF_le g j
    show (∃ s', b_X6_enough_14 x (nI n) (nI (enF g j)) (nI (j + 1)) = some (.inl s') ∧ _) ∨ (∃ q, b_X6_enough_14 x (nI n) (nI (enF g j)) (nI (j + 1)) = some (.inr q) ∧ _)
    unfold b_X6_enough_14
    rw [hgr]
    rcases Nat.lt_or_ge j 8 with q | q
    · by_cases e : enF g j = j
      · obtain ⟨x2, g1, g2, g3⟩ := kthinksWith (what := 0) (v := j + 1) (n := n) (c.kL hf) v (t.2.2.2.2.1.kL hf) t.2.2.2.2.2.2 hl (by omega) (by omega) (by simp; omega) hf
        have g5 := g2.2.1
        rw [← hg] at g5
        by_cases z : g (j + 1) = nI 0
        · refine Or.inl ⟨(x2, nI (j + 1), nI (j + 1 + 1)), ?_, q, ?_, g3⟩
          · rw [e]
            ((try simp only [li_0, li_1, li_2, li_3, li_4, li_5, li_6, li_7, li_8, li_9, li_10, li_11, li_12, li_13, li_14, li_15, li_16, li_17, li_18, li_19, li_20, li_30, li_31, li_32, li_33, li_40, li_41, li_42, li_43, li_45, li_48, li_56, li_57, li_59, li_60, li_61, li_64, li_91, li_97, li_99, li_100, li_122, li_150, li_160, li_200, li_201, li_255, li_300, li_303, li_304, li_305, li_306, li_312, li_400, li_500, li_999, li_1003, li_3099, li_99999, li_100000, li_1000000, li_65, li_23, li_neg]); (try simp (disch := omega) only [ic_le_f, ic_le_t, ic_lt_f, ic_lt_t, ic_eq_f, ic_eq_t, ic_im, ic_mi, ic_mm_t, ic_mm_f, ic_mlt, ic_mle, ic_ilem, ic_iltm, ic_mmle_t, ic_mmle_f, pu_add, pu_mul, pu_in, pu_ck, pu_let, pu_cl, pu_cpok, pu_inr, Option.bind_some, ite_true, ite_false, pu_dm, pu_dv, pu_sub, nt_dm, if_true, if_false]))
            rw [g1]
            ((try simp only [g5, z, b_X6_enough_49, li_0, li_1, li_2, li_3, li_4, li_5, li_6, li_7, li_8, li_9, li_10, li_11, li_12, li_13, li_14, li_15, li_16, li_17, li_18, li_19, li_20, li_30, li_31, li_32, li_33, li_40, li_41, li_42, li_43, li_45, li_48, li_56, li_57, li_59, li_60, li_61, li_64, li_91, li_97, li_99, li_100, li_122, li_150, li_160, li_200, li_201, li_255, li_300, li_303, li_304, li_305, li_306, li_312, li_400, li_500, li_999, li_1003, li_3099, li_99999, li_100000, li_1000000, li_65, li_23, li_neg]); (try simp (disch := omega) only [g5, z, b_X6_enough_49, ic_le_f, ic_le_t, ic_lt_f, ic_lt_t, ic_eq_f, ic_eq_t, ic_im, ic_mi, ic_mm_t, ic_mm_f, ic_mlt, ic_mle, ic_ilem, ic_iltm, ic_mmle_t, ic_mmle_f, pu_add, pu_mul, pu_in, pu_ck, pu_let, pu_cl, pu_cpok, pu_inr, Option.bind_some, ite_true, ite_false, pu_dm, pu_dv, pu_sub, nt_dm, if_true, if_false]))
          · show _ = (nI (enF g (j + 1)), _)
            rw [enF, if_pos ⟨e, z⟩]
        · refine Or.inl ⟨(x2, nI (enF g j), nI (j + 1 + 1)), ?_, q, ?_, g3⟩
          · rw [e]
            ((try simp only [li_0, li_1, li_2, li_3, li_4, li_5, li_6, li_7, li_8, li_9, li_10, li_11, li_12, li_13, li_14, li_15, li_16, li_17, li_18, li_19, li_20, li_30, li_31, li_32, li_33, li_40, li_41, li_42, li_43, li_45, li_48, li_56, li_57, li_59, li_60, li_61, li_64, li_91, li_97, li_99, li_100, li_122, li_150, li_160, li_200, li_201, li_255, li_300, li_303, li_304, li_305, li_306, li_312, li_400, li_500, li_999, li_1003, li_3099, li_99999, li_100000, li_1000000, li_65, li_23, li_neg]); (try simp (disch := omega) only [ic_le_f, ic_le_t, ic_lt_f, ic_lt_t, ic_eq_f, ic_eq_t, ic_im, ic_mi, ic_mm_t, ic_mm_f, ic_mlt, ic_mle, ic_ilem, ic_iltm, ic_mmle_t, ic_mmle_f, pu_add, pu_mul, pu_in, pu_ck, pu_let, pu_cl, pu_cpok, pu_inr, Option.bind_some, ite_true, ite_false, pu_dm, pu_dv, pu_sub, nt_dm, if_true, if_false]))
            rw [g1]
            ((try simp only [g5, z, b_X6_enough_49, li_0, li_1, li_2, li_3, li_4, li_5, li_6, li_7, li_8, li_9, li_10, li_11, li_12, li_13, li_14, li_15, li_16, li_17, li_18, li_19, li_20, li_30, li_31, li_32, li_33, li_40, li_41, li_42, li_43, li_45, li_48, li_56, li_57, li_59, li_60, li_61, li_64, li_91, li_97, li_99, li_100, li_122, li_150, li_160, li_200, li_201, li_255, li_300, li_303, li_304, li_305, li_306, li_312, li_400, li_500, li_999, li_1003, li_3099, li_99999, li_100000, li_1000000, li_65, li_23, li_neg]); (try simp (disch := omega) only [g5, z, b_X6_enough_49, ic_le_f, ic_le_t, ic_lt_f, ic_lt_t, ic_eq_f, ic_eq_t, ic_im, ic_mi, ic_mm_t, ic_mm_f, ic_mlt, ic_mle, ic_ilem, ic_iltm, ic_mmle_t, ic_mmle_f, pu_add, pu_mul, pu_in, pu_ck, pu_let, pu_cl, pu_cpok, pu_inr, Option.bind_some, ite_true, ite_false, pu_dm, pu_dv, pu_sub, nt_dm, if_true, if_false]))
          · show _ = (nI (enF g (j + 1)), _)
            rw [enF, if_neg (fun y => z y.2)]
      · refine Or.inr ⟨(nI (enF g j), x), ?_, ?_, hf, trivial⟩
        · ((try simp only [li_0, li_1, li_2, li_3, li_4, li_5, li_6, li_7, li_8, li_9, li_10, li_11, li_12, li_13, li_14, li_15, li_16, li_17, li_18, li_19, li_20, li_30, li_31, li_32, li_33, li_40, li_41, li_42, li_43, li_45, li_48, li_56, li_57, li_59, li_60, li_61, li_64, li_91, li_97, li_99, li_100, li_122, li_150, li_160, li_200, li_201, li_255, li_300, li_303, li_304, li_305, li_306, li_312, li_400, li_500, li_999, li_1003, li_3099, li_99999, li_100000, li_1000000, li_65, li_23, li_neg]); (try simp (disch := omega) only [ic_le_f, ic_le_t, ic_lt_f, ic_lt_t, ic_eq_f, ic_eq_t, ic_im, ic_mi, ic_mm_t, ic_mm_f, ic_mlt, ic_mle, ic_ilem, ic_iltm, ic_mmle_t, ic_mmle_f, pu_add, pu_mul, pu_in, pu_ck, pu_let, pu_cl, pu_cpok, pu_inr, Option.bind_some, ite_true, ite_false, pu_dm, pu_dv, pu_sub, nt_dm, if_true, if_false]))
        · have := enF_st e (8 - j)
          rw [show j + (8 - j) = 8 by omega] at this
          rw [this]
    · have : j = 8 := by omega
      subst this
      refine Or.inr ⟨(nI (enF g 8), x), ?_, rfl, hf, trivial⟩
      ((try simp only [li_0, li_1, li_2, li_3, li_4, li_5, li_6, li_7, li_8, li_9, li_10, li_11, li_12, li_13, li_14, li_15, li_16, li_17, li_18, li_19, li_20, li_30, li_31, li_32, li_33, li_40, li_41, li_42, li_43, li_45, li_48, li_56, li_57, li_59, li_60, li_61, li_64, li_91, li_97, li_99, li_100, li_122, li_150, li_160, li_200, li_201, li_255, li_300, li_303, li_304, li_305, li_306, li_312, li_400, li_500, li_999, li_1003, li_3099, li_99999, li_100000, li_1000000, li_65, li_23, li_neg]); (try simp (disch := omega) only [ic_le_f, ic_le_t, ic_lt_f, ic_lt_t, ic_eq_f, ic_eq_t, ic_im, ic_mi, ic_mm_t, ic_mm_f, ic_mlt, ic_mle, ic_ilem, ic_iltm, ic_mmle_t, ic_mmle_f, pu_add, pu_mul, pu_in, pu_ck, pu_let, pu_cl, pu_cpok, pu_inr, Option.bind_some, ite_true, ite_false, pu_dm, pu_dv, pu_sub, nt_dm, if_true, if_false])))
  have r1m : MH r1.2 H := r.cl a3 (by decide)
  have tr := t.2.2.2.2.2.1.F a3 (by decide) (by decide)
  obtain ⟨r2, b1, b2, b3, b4, b5⟩ := lp_at (f := fun s : qaM × Int32 × Int32 × Int32 => b_X7_enough_17 s.1 (nI n) s.2.1 s.2.2.1 s.2.2.2) (fun j s => s.2 = (nI (enF g j), (if enF g j = j then nI 1 else nI 0), nI (j + 1)) ∧ MH s.1 H ∧ qF rL r1.2 s.1 ∧ o36l oL r1.2 s.1) (fun q => q.1 = nI (enF g 8) ∧ MH q.2 H ∧ qF rL r1.2 q.2 ∧ o36l oL r1.2 q.2) 8 (s := (r1.2, nI 0, nI 1, nI 1)) ⟨rfl, r1m, qF.rf _ _, o36l.rf _ _⟩ (by omega) (by
    rintro j ⟨x, k⟩ hj ⟨hk, hm, hf, ho⟩
    have hk2 : k = (nI (enF g j), (if enF g j = j then nI 1 else nI 0), nI (j + 1)) := hk
    replace hf : qF rL r1.2 x := hf
    replace ho : o36l oL r1.2 x := ho
    replace hm : MH x H := hm
    subst hk2
    have hle := enF_le g j
    show (∃ s', b_X7_enough_17 x (nI n) (nI (enF g j)) (if enF g j = j then nI 1 else nI 0) (nI (j + 1)) = some (.inl s') ∧ _) ∨ (∃ q, b_X7_enough_17 x (nI n) (nI (enF g j)) (if enF g j = j then nI 1 else nI 0) (nI (j + 1)) = some (.inr q) ∧ _)
    unfold b_X7_enough_17
    rcases Nat.lt_or_ge j 8 with q | q
    · by_cases e : enF g j = j
      · obtain ⟨x2, g1, g2, g3, g4⟩ := r7tooFewBy (what := 0) (v := j + 1) (n := n) hm v (tr.rL hf) t.2.2.2.2.2.2 hl (by omega) (by omega) (by simp; omega) hf ho
        rw [← hg] at g1
        by_cases z : g (j + 1) = nI 0
        · refine Or.inl ⟨(x2, nI (j + 1), nI 1, nI (j + 1 + 1)), ?_, q, ?_, g2, g3, g4⟩
          · rw [if_pos e]
            ((try simp only [li_0, li_1, li_2, li_3, li_4, li_5, li_6, li_7, li_8, li_9, li_10, li_11, li_12, li_13, li_14, li_15, li_16, li_17, li_18, li_19, li_20, li_30, li_31, li_32, li_33, li_40, li_41, li_42, li_43, li_45, li_48, li_56, li_57, li_59, li_60, li_61, li_64, li_91, li_97, li_99, li_100, li_122, li_150, li_160, li_200, li_201, li_255, li_300, li_303, li_304, li_305, li_306, li_312, li_400, li_500, li_999, li_1003, li_3099, li_99999, li_100000, li_1000000, li_65, li_23, li_neg]); (try simp (disch := omega) only [ic_le_f, ic_le_t, ic_lt_f, ic_lt_t, ic_eq_f, ic_eq_t, ic_im, ic_mi, ic_mm_t, ic_mm_f, ic_mlt, ic_mle, ic_ilem, ic_iltm, ic_mmle_t, ic_mmle_f, pu_add, pu_mul, pu_in, pu_ck, pu_let, pu_cl, pu_cpok, pu_inr, Option.bind_some, ite_true, ite_false, pu_dm, pu_dv, pu_sub, nt_dm, if_true, if_false]))
            rw [g1]
            ((try simp only [z, b_X7_enough_44, b_X7_enough_55, li_0, li_1, li_2, li_3, li_4, li_5, li_6, li_7, li_8, li_9, li_10, li_11, li_12, li_13, li_14, li_15, li_16, li_17, li_18, li_19, li_20, li_30, li_31, li_32, li_33, li_40, li_41, li_42, li_43, li_45, li_48, li_56, li_57, li_59, li_60, li_61, li_64, li_91, li_97, li_99, li_100, li_122, li_150, li_160, li_200, li_201, li_255, li_300, li_303, li_304, li_305, li_306, li_312, li_400, li_500, li_999, li_1003, li_3099, li_99999, li_100000, li_1000000, li_65, li_23, li_neg]); (try simp (disch := omega) only [z, b_X7_enough_44, b_X7_enough_55, ic_le_f, ic_le_t, ic_lt_f, ic_lt_t, ic_eq_f, ic_eq_t, ic_im, ic_mi, ic_mm_t, ic_mm_f, ic_mlt, ic_mle, ic_ilem, ic_iltm, ic_mmle_t, ic_mmle_f, pu_add, pu_mul, pu_in, pu_ck, pu_let, pu_cl, pu_cpok, pu_inr, Option.bind_some, ite_true, ite_false, pu_dm, pu_dv, pu_sub, nt_dm, if_true, if_false]))
          · show _ = (nI (enF g (j + 1)), _)
            rw [enF, if_pos ⟨e, z⟩, if_pos rfl]
        · refine Or.inl ⟨(x2, nI (enF g j), nI 0, nI (j + 1 + 1)), ?_, q, ?_, g2, g3, g4⟩
          · rw [if_pos e]
            ((try simp only [li_0, li_1, li_2, li_3, li_4, li_5, li_6, li_7, li_8, li_9, li_10, li_11, li_12, li_13, li_14, li_15, li_16, li_17, li_18, li_19, li_20, li_30, li_31, li_32, li_33, li_40, li_41, li_42, li_43, li_45, li_48, li_56, li_57, li_59, li_60, li_61, li_64, li_91, li_97, li_99, li_100, li_122, li_150, li_160, li_200, li_201, li_255, li_300, li_303, li_304, li_305, li_306, li_312, li_400, li_500, li_999, li_1003, li_3099, li_99999, li_100000, li_1000000, li_65, li_23, li_neg]); (try simp (disch := omega) only [ic_le_f, ic_le_t, ic_lt_f, ic_lt_t, ic_eq_f, ic_eq_t, ic_im, ic_mi, ic_mm_t, ic_mm_f, ic_mlt, ic_mle, ic_ilem, ic_iltm, ic_mmle_t, ic_mmle_f, pu_add, pu_mul, pu_in, pu_ck, pu_let, pu_cl, pu_cpok, pu_inr, Option.bind_some, ite_true, ite_false, pu_dm, pu_dv, pu_sub, nt_dm, if_true, if_false]))
            rw [g1]
            ((try simp only [z, b_X7_enough_44, b_X7_enough_55, li_0, li_1, li_2, li_3, li_4, li_5, li_6, li_7, li_8, li_9, li_10, li_11, li_12, li_13, li_14, li_15, li_16, li_17, li_18, li_19, li_20, li_30, li_31, li_32, li_33, li_40, li_41, li_42, li_43, li_45, li_48, li_56, li_57, li_59, li_60, li_61, li_64, li_91, li_97, li_99, li_100, li_122, li_150, li_160, li_200, li_201, li_255, li_300, li_303, li_304, li_305, li_306, li_312, li_400, li_500, li_999, li_1003, li_3099, li_99999, li_100000, li_1000000, li_65, li_23, li_neg]); (try simp (disch := omega) only [z, b_X7_enough_44, b_X7_enough_55, ic_le_f, ic_le_t, ic_lt_f, ic_lt_t, ic_eq_f, ic_eq_t, ic_im, ic_mi, ic_mm_t, ic_mm_f, ic_mlt, ic_mle, ic_ilem, ic_iltm, ic_mmle_t, ic_mmle_f, pu_add, pu_mul, pu_in, pu_ck, pu_let, pu_cl, pu_cpok, pu_inr, Option.bind_some, ite_true, ite_false, pu_dm, pu_dv, pu_sub, nt_dm, if_true, if_false]))
          · show _ = (nI (enF g (j + 1)), _)
            rw [enF, if_neg (fun y => z y.2), if_neg (by omega)]
      · refine Or.inr ⟨(nI (enF g j), x), ?_, ?_, hm, hf, ho⟩
        · rw [if_neg e]
          ((try simp only [li_0, li_1, li_2, li_3, li_4, li_5, li_6, li_7, li_8, li_9, li_10, li_11, li_12, li_13, li_14, li_15, li_16, li_17, li_18, li_19, li_20, li_30, li_31, li_32, li_33, li_40, li_41, li_42, li_43, li_45, li_48, li_56, li_57, li_59, li_60, li_61, li_64, li_91, li_97, li_99, li_100, li_122, li_150, li_160, li_200, li_201, li_255, li_300, li_303, li_304, li_305, li_306, li_312, li_400, li_500, li_999, li_1003, li_3099, li_99999, li_100000, li_1000000, li_65, li_23, li_neg]); (try simp (disch := omega) only [ic_le_f, ic_le_t, ic_lt_f, ic_lt_t, ic_eq_f, ic_eq_t, ic_im, ic_mi, ic_mm_t, ic_mm_f, ic_mlt, ic_mle, ic_ilem, ic_iltm, ic_mmle_t, ic_mmle_f, pu_add, pu_mul, pu_in, pu_ck, pu_let, pu_cl, pu_cpok, pu_inr, Option.bind_some, ite_true, ite_false, pu_dm, pu_dv, pu_sub, nt_dm, if_true, if_false]))
        · have := enF_st e (8 - j)
          rw [show j + (8 - j) = 8 by omega] at this
          rw [this]
    · have : j = 8 := by omega
      subst this
      refine Or.inr ⟨(nI (enF g 8), x), ?_, rfl, hm, hf, ho⟩
      ((try simp only [li_0, li_1, li_2, li_3, li_4, li_5, li_6, li_7, li_8, li_9, li_10, li_11, li_12, li_13, li_14, li_15, li_16, li_17, li_18, li_19, li_20, li_30, li_31, li_32, li_33, li_40, li_41, li_42, li_43, li_45, li_48, li_56, li_57, li_59, li_60, li_61, li_64, li_91, li_97, li_99, li_100, li_122, li_150, li_160, li_200, li_201, li_255, li_300, li_303, li_304, li_305, li_306, li_312, li_400, li_500, li_999, li_1003, li_3099, li_99999, li_100000, li_1000000, li_65, li_23, li_neg]); (try simp (disch := omega) only [ic_le_f, ic_le_t, ic_lt_f, ic_lt_t, ic_eq_f, ic_eq_t, ic_im, ic_mi, ic_mm_t, ic_mm_f, ic_mlt, ic_mle, ic_ilem, ic_iltm, ic_mmle_t, ic_mmle_f, pu_add, pu_mul, pu_in, pu_ck, pu_let, pu_cl, pu_cpok, pu_inr, Option.bind_some, ite_true, ite_false, pu_dm, pu_dv, pu_sub, nt_dm, if_true, if_false])))
  refine ⟨nI (enF g 8), r1.2, r2.2, ?_, ?_, Rel.thk hD a3 b4 b5 b3⟩
  · ((try simp only [f_X6_enough, f_X6_isWeeks, li_0, li_1, li_2, li_3, li_4, li_5, li_6, li_7, li_8, li_9, li_10, li_11, li_12, li_13, li_14, li_15, li_16, li_17, li_18, li_19, li_20, li_30, li_31, li_32, li_33, li_40, li_41, li_42, li_43, li_45, li_48, li_56, li_57, li_59, li_60, li_61, li_64, li_91, li_97, li_99, li_100, li_122, li_150, li_160, li_200, li_201, li_255, li_300, li_303, li_304, li_305, li_306, li_312, li_400, li_500, li_999, li_1003, li_3099, li_99999, li_100000, li_1000000, li_65, li_23, li_neg]); (try simp (disch := omega) only [f_X6_enough, f_X6_isWeeks, ic_le_f, ic_le_t, ic_lt_f, ic_lt_t, ic_eq_f, ic_eq_t, ic_im, ic_mi, ic_mm_t, ic_mm_f, ic_mlt, ic_mle, ic_ilem, ic_iltm, ic_mmle_t, ic_mmle_f, pu_add, pu_mul, pu_in, pu_ck, pu_let, pu_cl, pu_cpok, pu_inr, Option.bind_some, ite_true, ite_false, pu_dm, pu_dv, pu_sub, nt_dm, if_true, if_false]))
    rw [lp_X6_enough_14, a1, ← a2]
  · ((try simp only [f_X7_enough, f_X7_areWeeks, f_X7_in, qa_bl1, li_0, li_1, li_2, li_3, li_4, li_5, li_6, li_7, li_8, li_9, li_10, li_11, li_12, li_13, li_14, li_15, li_16, li_17, li_18, li_19, li_20, li_30, li_31, li_32, li_33, li_40, li_41, li_42, li_43, li_45, li_48, li_56, li_57, li_59, li_60, li_61, li_64, li_91, li_97, li_99, li_100, li_122, li_150, li_160, li_200, li_201, li_255, li_300, li_303, li_304, li_305, li_306, li_312, li_400, li_500, li_999, li_1003, li_3099, li_99999, li_100000, li_1000000, li_65, li_23, li_neg]); (try simp (disch := omega) only [f_X7_enough, f_X7_areWeeks, f_X7_in, qa_bl1, ic_le_f, ic_le_t, ic_lt_f, ic_lt_t, ic_eq_f, ic_eq_t, ic_im, ic_mi, ic_mm_t, ic_mm_f, ic_mlt, ic_mle, ic_ilem, ic_iltm, ic_mmle_t, ic_mmle_f, pu_add, pu_mul, pu_in, pu_ck, pu_let, pu_cl, pu_cpok, pu_inr, Option.bind_some, ite_true, ite_false, pu_dm, pu_dv, pu_sub, nt_dm, if_true, if_false]))
    rw [lp_X7_enough_17, b1, ← b2]
/-- the greatest of 0, 1 .. that does, from 1 on -/
def laF (g : Nat → Int32) : Nat → Nat
  | 0 => 0
  | j + 1 => if g j = nI 0 then j + 1 else laF g j
theorem qp_laundry : qaP_laundry Rel := by
  intro m a h
  obtain ⟨H, N, S, hD⟩ := h
  have ⟨c, r, v, hl, hw, t, _, _, _, nt⟩ := hD
  rcases upTo 200 201 rfl (by omega) a with ⟨n, hn, rfl⟩ | hx
  rotate_left
  · rcases hx with ⟨h1, h2, h3, h4, h5, h6⟩ | ⟨h1, h2, h3, h4, h5, h6⟩
    all_goals
      refine ⟨nM 2, m, m, ?_, ?_, Rel.mk hD⟩
      · ((try simp only [f_X6_laundry, f_X6_isWeeks, f_X6_isSheet, f_X6_isSeed, f_X6_isByte, h1, h2, h3, h4, h5, h6, li_0, li_1, li_2, li_3, li_4, li_5, li_6, li_7, li_8, li_9, li_10, li_11, li_12, li_13, li_14, li_15, li_16, li_17, li_18, li_19, li_20, li_30, li_31, li_32, li_33, li_40, li_41, li_42, li_43, li_45, li_48, li_56, li_57, li_59, li_60, li_61, li_64, li_91, li_97, li_99, li_100, li_122, li_150, li_160, li_200, li_201, li_255, li_300, li_303, li_304, li_305, li_306, li_312, li_400, li_500, li_999, li_1003, li_3099, li_99999, li_100000, li_1000000, li_65, li_23, li_neg]); (try simp (disch := omega) only [f_X6_laundry, f_X6_isWeeks, f_X6_isSheet, f_X6_isSeed, f_X6_isByte, h1, h2, h3, h4, h5, h6, ic_le_f, ic_le_t, ic_lt_f, ic_lt_t, ic_eq_f, ic_eq_t, ic_im, ic_mi, ic_mm_t, ic_mm_f, ic_mlt, ic_mle, ic_ilem, ic_iltm, ic_mmle_t, ic_mmle_f, pu_add, pu_mul, pu_in, pu_ck, pu_let, pu_cl, pu_cpok, pu_inr, Option.bind_some, ite_true, ite_false, pu_dm, pu_dv, pu_sub, nt_dm, if_true, if_false]))
      · ((try simp only [f_X7_laundry, f_X7_in, f_X7_areWeeks, f_X7_isByte, qa_bl0, qa_bl1, h1, h2, h3, h4, h5, h6, li_0, li_1, li_2, li_3, li_4, li_5, li_6, li_7, li_8, li_9, li_10, li_11, li_12, li_13, li_14, li_15, li_16, li_17, li_18, li_19, li_20, li_30, li_31, li_32, li_33, li_40, li_41, li_42, li_43, li_45, li_48, li_56, li_57, li_59, li_60, li_61, li_64, li_91, li_97, li_99, li_100, li_122, li_150, li_160, li_200, li_201, li_255, li_300, li_303, li_304, li_305, li_306, li_312, li_400, li_500, li_999, li_1003, li_3099, li_99999, li_100000, li_1000000, li_65, li_23, li_neg]); (try simp (disch := omega) only [f_X7_laundry, f_X7_in, f_X7_areWeeks, f_X7_isByte, qa_bl0, qa_bl1, h1, h2, h3, h4, h5, h6, ic_le_f, ic_le_t, ic_lt_f, ic_lt_t, ic_eq_f, ic_eq_t, ic_im, ic_mi, ic_mm_t, ic_mm_f, ic_mlt, ic_mle, ic_ilem, ic_iltm, ic_mmle_t, ic_mmle_f, pu_add, pu_mul, pu_in, pu_ck, pu_let, pu_cl, pu_cpok, pu_inr, Option.bind_some, ite_true, ite_false, pu_dm, pu_dv, pu_sub, nt_dm, if_true, if_false]))
  obtain ⟨g, hg⟩ : ∃ g : Nat → Int32, ∀ w, g w = nI (thk S n (H.setR 1 w)).2.1 := ⟨_, fun _ => rfl⟩
  have hgr : qa_gr 1 = nI 3 := by decide
  obtain ⟨r1, a1, a2, a3⟩ := lp_at (f := fun s : qaM × Int32 × Int32 => b_X6_laundry_14 s.1 (nI n) s.2.1 s.2.2) (fun j s => s.2 = (plI (laF g j), nI j) ∧ qF kL m s.1) (fun q => q.1 = plI (laF g 4) ∧ qF kL m q.2) 4 (s := (m, nM 1, nI 0)) ⟨rfl, qF.rf _ _⟩ (by omega) (by
    rintro j ⟨x, k⟩ hj ⟨hk, hf⟩
    have hk2 : k = (plI (laF g j), nI j) := hk
    replace hf : qF kL m x := hf
    subst hk2
    show (∃ s', b_X6_laundry_14 x (nI n) (plI (laF g j)) (nI j) = some (.inl s') ∧ _) ∨ (∃ q, b_X6_laundry_14 x (nI n) (plI (laF g j)) (nI j) = some (.inr q) ∧ _)
    unfold b_X6_laundry_14
    rw [hgr]
    rcases Nat.lt_or_ge j 4 with q | q
    · obtain ⟨x2, g1, g2, g3⟩ := kthinksWith (what := 1) (v := j) (n := n) (c.kL hf) v (t.2.2.2.2.1.kL hf) t.2.2.2.2.2.2 hl (by omega) (by omega) (by simp; omega) hf
      have g5 := g2.2.1
      rw [← hg] at g5
      refine Or.inl ⟨(x2, plI (laF g (j + 1)), nI (j + 1)), ?_, q, rfl, g3⟩
      ((try simp only [li_0, li_1, li_2, li_3, li_4, li_5, li_6, li_7, li_8, li_9, li_10, li_11, li_12, li_13, li_14, li_15, li_16, li_17, li_18, li_19, li_20, li_30, li_31, li_32, li_33, li_40, li_41, li_42, li_43, li_45, li_48, li_56, li_57, li_59, li_60, li_61, li_64, li_91, li_97, li_99, li_100, li_122, li_150, li_160, li_200, li_201, li_255, li_300, li_303, li_304, li_305, li_306, li_312, li_400, li_500, li_999, li_1003, li_3099, li_99999, li_100000, li_1000000, li_65, li_23, li_neg]); (try simp (disch := omega) only [ic_le_f, ic_le_t, ic_lt_f, ic_lt_t, ic_eq_f, ic_eq_t, ic_im, ic_mi, ic_mm_t, ic_mm_f, ic_mlt, ic_mle, ic_ilem, ic_iltm, ic_mmle_t, ic_mmle_f, pu_add, pu_mul, pu_in, pu_ck, pu_let, pu_cl, pu_cpok, pu_inr, Option.bind_some, ite_true, ite_false, pu_dm, pu_dv, pu_sub, nt_dm, if_true, if_false]))
      rw [g1]
      by_cases z : g j = nI 0
      · ((try simp only [g5, z, b_X6_laundry_42, laF, plI_s, li_0, li_1, li_2, li_3, li_4, li_5, li_6, li_7, li_8, li_9, li_10, li_11, li_12, li_13, li_14, li_15, li_16, li_17, li_18, li_19, li_20, li_30, li_31, li_32, li_33, li_40, li_41, li_42, li_43, li_45, li_48, li_56, li_57, li_59, li_60, li_61, li_64, li_91, li_97, li_99, li_100, li_122, li_150, li_160, li_200, li_201, li_255, li_300, li_303, li_304, li_305, li_306, li_312, li_400, li_500, li_999, li_1003, li_3099, li_99999, li_100000, li_1000000, li_65, li_23, li_neg]); (try simp (disch := omega) only [g5, z, b_X6_laundry_42, laF, plI_s, ic_le_f, ic_le_t, ic_lt_f, ic_lt_t, ic_eq_f, ic_eq_t, ic_im, ic_mi, ic_mm_t, ic_mm_f, ic_mlt, ic_mle, ic_ilem, ic_iltm, ic_mmle_t, ic_mmle_f, pu_add, pu_mul, pu_in, pu_ck, pu_let, pu_cl, pu_cpok, pu_inr, Option.bind_some, ite_true, ite_false, pu_dm, pu_dv, pu_sub, nt_dm, if_true, if_false]))
      · ((try simp only [g5, z, b_X6_laundry_42, laF, li_0, li_1, li_2, li_3, li_4, li_5, li_6, li_7, li_8, li_9, li_10, li_11, li_12, li_13, li_14, li_15, li_16, li_17, li_18, li_19, li_20, li_30, li_31, li_32, li_33, li_40, li_41, li_42, li_43, li_45, li_48, li_56, li_57, li_59, li_60, li_61, li_64, li_91, li_97, li_99, li_100, li_122, li_150, li_160, li_200, li_201, li_255, li_300, li_303, li_304, li_305, li_306, li_312, li_400, li_500, li_999, li_1003, li_3099, li_99999, li_100000, li_1000000, li_65, li_23, li_neg]); (try simp (disch := omega) only [g5, z, b_X6_laundry_42, laF, ic_le_f, ic_le_t, ic_lt_f, ic_lt_t, ic_eq_f, ic_eq_t, ic_im, ic_mi, ic_mm_t, ic_mm_f, ic_mlt, ic_mle, ic_ilem, ic_iltm, ic_mmle_t, ic_mmle_f, pu_add, pu_mul, pu_in, pu_ck, pu_let, pu_cl, pu_cpok, pu_inr, Option.bind_some, ite_true, ite_false, pu_dm, pu_dv, pu_sub, nt_dm, if_true, if_false]))
    · have : j = 4 := by omega
      subst this
      refine Or.inr ⟨(plI (laF g 4), x), ?_, rfl, hf⟩
      ((try simp only [li_0, li_1, li_2, li_3, li_4, li_5, li_6, li_7, li_8, li_9, li_10, li_11, li_12, li_13, li_14, li_15, li_16, li_17, li_18, li_19, li_20, li_30, li_31, li_32, li_33, li_40, li_41, li_42, li_43, li_45, li_48, li_56, li_57, li_59, li_60, li_61, li_64, li_91, li_97, li_99, li_100, li_122, li_150, li_160, li_200, li_201, li_255, li_300, li_303, li_304, li_305, li_306, li_312, li_400, li_500, li_999, li_1003, li_3099, li_99999, li_100000, li_1000000, li_65, li_23, li_neg]); (try simp (disch := omega) only [ic_le_f, ic_le_t, ic_lt_f, ic_lt_t, ic_eq_f, ic_eq_t, ic_im, ic_mi, ic_mm_t, ic_mm_f, ic_mlt, ic_mle, ic_ilem, ic_iltm, ic_mmle_t, ic_mmle_f, pu_add, pu_mul, pu_in, pu_ck, pu_let, pu_cl, pu_cpok, pu_inr, Option.bind_some, ite_true, ite_false, pu_dm, pu_dv, pu_sub, nt_dm, if_true, if_false])))
  have r1m : MH r1.2 H := r.cl a3 (by decide)
  have tr := t.2.2.2.2.2.1.F a3 (by decide) (by decide)
  obtain ⟨r2, b1, b2, b3, b4, b5⟩ := lp_at (f := fun s : qaM × Int32 × Int32 => b_X7_laundry_14 s.1 (nI n) s.2.1 s.2.2) (fun j s => s.2 = (plI (laF g j), nI j) ∧ MH s.1 H ∧ qF rL r1.2 s.1 ∧ o36l oL r1.2 s.1) (fun q => q.1 = plI (laF g 4) ∧ MH q.2 H ∧ qF rL r1.2 q.2 ∧ o36l oL r1.2 q.2) 4 (s := (r1.2, nM 1, nI 0)) ⟨rfl, r1m, qF.rf _ _, o36l.rf _ _⟩ (by omega) (by
    rintro j ⟨x, k⟩ hj ⟨hk, hm, hf, ho⟩
    have hk2 : k = (plI (laF g j), nI j) := hk
    replace hf : qF rL r1.2 x := hf
    replace ho : o36l oL r1.2 x := ho
    replace hm : MH x H := hm
    subst hk2
    show (∃ s', b_X7_laundry_14 x (nI n) (plI (laF g j)) (nI j) = some (.inl s') ∧ _) ∨ (∃ q, b_X7_laundry_14 x (nI n) (plI (laF g j)) (nI j) = some (.inr q) ∧ _)
    unfold b_X7_laundry_14
    rcases Nat.lt_or_ge j 4 with q | q
    · obtain ⟨x2, g1, g2, g3, g4⟩ := r7tooFewBy (what := 1) (v := j) (n := n) hm v (tr.rL hf) t.2.2.2.2.2.2 hl (by omega) (by omega) (by simp; omega) hf ho
      rw [← hg] at g1
      refine Or.inl ⟨(x2, plI (laF g (j + 1)), nI (j + 1)), ?_, q, rfl, g2, g3, g4⟩
      ((try simp only [li_0, li_1, li_2, li_3, li_4, li_5, li_6, li_7, li_8, li_9, li_10, li_11, li_12, li_13, li_14, li_15, li_16, li_17, li_18, li_19, li_20, li_30, li_31, li_32, li_33, li_40, li_41, li_42, li_43, li_45, li_48, li_56, li_57, li_59, li_60, li_61, li_64, li_91, li_97, li_99, li_100, li_122, li_150, li_160, li_200, li_201, li_255, li_300, li_303, li_304, li_305, li_306, li_312, li_400, li_500, li_999, li_1003, li_3099, li_99999, li_100000, li_1000000, li_65, li_23, li_neg]); (try simp (disch := omega) only [ic_le_f, ic_le_t, ic_lt_f, ic_lt_t, ic_eq_f, ic_eq_t, ic_im, ic_mi, ic_mm_t, ic_mm_f, ic_mlt, ic_mle, ic_ilem, ic_iltm, ic_mmle_t, ic_mmle_f, pu_add, pu_mul, pu_in, pu_ck, pu_let, pu_cl, pu_cpok, pu_inr, Option.bind_some, ite_true, ite_false, pu_dm, pu_dv, pu_sub, nt_dm, if_true, if_false]))
      rw [g1]
      by_cases z : g j = nI 0
      · ((try simp only [z, b_X7_laundry_34, laF, plI_s, li_0, li_1, li_2, li_3, li_4, li_5, li_6, li_7, li_8, li_9, li_10, li_11, li_12, li_13, li_14, li_15, li_16, li_17, li_18, li_19, li_20, li_30, li_31, li_32, li_33, li_40, li_41, li_42, li_43, li_45, li_48, li_56, li_57, li_59, li_60, li_61, li_64, li_91, li_97, li_99, li_100, li_122, li_150, li_160, li_200, li_201, li_255, li_300, li_303, li_304, li_305, li_306, li_312, li_400, li_500, li_999, li_1003, li_3099, li_99999, li_100000, li_1000000, li_65, li_23, li_neg]); (try simp (disch := omega) only [z, b_X7_laundry_34, laF, plI_s, ic_le_f, ic_le_t, ic_lt_f, ic_lt_t, ic_eq_f, ic_eq_t, ic_im, ic_mi, ic_mm_t, ic_mm_f, ic_mlt, ic_mle, ic_ilem, ic_iltm, ic_mmle_t, ic_mmle_f, pu_add, pu_mul, pu_in, pu_ck, pu_let, pu_cl, pu_cpok, pu_inr, Option.bind_some, ite_true, ite_false, pu_dm, pu_dv, pu_sub, nt_dm, if_true, if_false]))
      · ((try simp only [z, b_X7_laundry_34, laF, li_0, li_1, li_2, li_3, li_4, li_5, li_6, li_7, li_8, li_9, li_10, li_11, li_12, li_13, li_14, li_15, li_16, li_17, li_18, li_19, li_20, li_30, li_31, li_32, li_33, li_40, li_41, li_42, li_43, li_45, li_48, li_56, li_57, li_59, li_60, li_61, li_64, li_91, li_97, li_99, li_100, li_122, li_150, li_160, li_200, li_201, li_255, li_300, li_303, li_304, li_305, li_306, li_312, li_400, li_500, li_999, li_1003, li_3099, li_99999, li_100000, li_1000000, li_65, li_23, li_neg]); (try simp (disch := omega) only [z, b_X7_laundry_34, laF, ic_le_f, ic_le_t, ic_lt_f, ic_lt_t, ic_eq_f, ic_eq_t, ic_im, ic_mi, ic_mm_t, ic_mm_f, ic_mlt, ic_mle, ic_ilem, ic_iltm, ic_mmle_t, ic_mmle_f, pu_add, pu_mul, pu_in, pu_ck, pu_let, pu_cl, pu_cpok, pu_inr, Option.bind_some, ite_true, ite_false, pu_dm, pu_dv, pu_sub, nt_dm, if_true, if_false]))
    · have : j = 4 := by omega
      subst this
      refine Or.inr ⟨(plI (laF g 4), x), ?_, rfl, hm, hf, ho⟩
      ((try simp only [li_0, li_1, li_2, li_3, li_4, li_5, li_6, li_7, li_8, li_9, li_10, li_11, li_12, li_13, li_14, li_15, li_16, li_17, li_18, li_19, li_20, li_30, li_31, li_32, li_33, li_40, li_41, li_42, li_43, li_45, li_48, li_56, li_57, li_59, li_60, li_61, li_64, li_91, li_97, li_99, li_100, li_122, li_150, li_160, li_200, li_201, li_255, li_300, li_303, li_304, li_305, li_306, li_312, li_400, li_500, li_999, li_1003, li_3099, li_99999, li_100000, li_1000000, li_65, li_23, li_neg]); (try simp (disch := omega) only [ic_le_f, ic_le_t, ic_lt_f, ic_lt_t, ic_eq_f, ic_eq_t, ic_im, ic_mi, ic_mm_t, ic_mm_f, ic_mlt, ic_mle, ic_ilem, ic_iltm, ic_mmle_t, ic_mmle_f, pu_add, pu_mul, pu_in, pu_ck, pu_let, pu_cl, pu_cpok, pu_inr, Option.bind_some, ite_true, ite_false, pu_dm, pu_dv, pu_sub, nt_dm, if_true, if_false])))
  refine ⟨plI (laF g 4), r1.2, r2.2, ?_, ?_, Rel.thk hD a3 b4 b5 b3⟩
  · ((try simp only [f_X6_laundry, f_X6_isWeeks, li_0, li_1, li_2, li_3, li_4, li_5, li_6, li_7, li_8, li_9, li_10, li_11, li_12, li_13, li_14, li_15, li_16, li_17, li_18, li_19, li_20, li_30, li_31, li_32, li_33, li_40, li_41, li_42, li_43, li_45, li_48, li_56, li_57, li_59, li_60, li_61, li_64, li_91, li_97, li_99, li_100, li_122, li_150, li_160, li_200, li_201, li_255, li_300, li_303, li_304, li_305, li_306, li_312, li_400, li_500, li_999, li_1003, li_3099, li_99999, li_100000, li_1000000, li_65, li_23, li_neg]); (try simp (disch := omega) only [f_X6_laundry, f_X6_isWeeks, ic_le_f, ic_le_t, ic_lt_f, ic_lt_t, ic_eq_f, ic_eq_t, ic_im, ic_mi, ic_mm_t, ic_mm_f, ic_mlt, ic_mle, ic_ilem, ic_iltm, ic_mmle_t, ic_mmle_f, pu_add, pu_mul, pu_in, pu_ck, pu_let, pu_cl, pu_cpok, pu_inr, Option.bind_some, ite_true, ite_false, pu_dm, pu_dv, pu_sub, nt_dm, if_true, if_false]))
    rw [lp_X6_laundry_14, a1, ← a2]
  · ((try simp only [f_X7_laundry, f_X7_areWeeks, f_X7_in, qa_bl1, li_0, li_1, li_2, li_3, li_4, li_5, li_6, li_7, li_8, li_9, li_10, li_11, li_12, li_13, li_14, li_15, li_16, li_17, li_18, li_19, li_20, li_30, li_31, li_32, li_33, li_40, li_41, li_42, li_43, li_45, li_48, li_56, li_57, li_59, li_60, li_61, li_64, li_91, li_97, li_99, li_100, li_122, li_150, li_160, li_200, li_201, li_255, li_300, li_303, li_304, li_305, li_306, li_312, li_400, li_500, li_999, li_1003, li_3099, li_99999, li_100000, li_1000000, li_65, li_23, li_neg]); (try simp (disch := omega) only [f_X7_laundry, f_X7_areWeeks, f_X7_in, qa_bl1, ic_le_f, ic_le_t, ic_lt_f, ic_lt_t, ic_eq_f, ic_eq_t, ic_im, ic_mi, ic_mm_t, ic_mm_f, ic_mlt, ic_mle, ic_ilem, ic_iltm, ic_mmle_t, ic_mmle_f, pu_add, pu_mul, pu_in, pu_ck, pu_let, pu_cl, pu_cpok, pu_inr, Option.bind_some, ite_true, ite_false, pu_dm, pu_dv, pu_sub, nt_dm, if_true, if_false]))
    rw [lp_X7_laundry_14, b1, ← b2]
