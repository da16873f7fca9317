/-! PURE: the reference's run of weeks, from keeping to laying back -/
/-- in which week a LINEN went, from 1 on; 0: in none -/
def goN (S : SF) (w : Nat → Nat × Nat) (X : TY) : Nat → Nat → Nat
  | 0, _ => 0
  | j + 1, i => if (seqT S w (j + 1) X).1.A i 7 = 1 ∧ ¬ (seqT S w j X).1.A i 7 = 1 then X.2.2.2.2 + j + 1 else goN S w X j i
def LR (m : qaM) (n : Nat) (A : Nat → AL) : Prop := ∀ i k : Nat, i < n → k < 6 → (k = 4 → A i 7 = 0) → m 59 (6 * i + k) = nI (A i (k + 2))
/-- the reference's tally as a tally is told -/
def RTY (m : qaM) (Y : TY) (go : Nat → Nat) : Prop := RT m Y.2.1 Y.2.2.1 Y.2.2.2.1 go
def RW (m m0 : qaM) (S : SF) (w : Nat → Nat × Nat) (H : HS) (j : Nat) : Prop :=
  MH m (seqT S w j (ty0 H)).1 ∧ (∃ go, RTY m (seqT S w j (ty0 H)) go ∧ ∀ i : Nat, i < H.n → go i = goN S w (ty0 H) j i) ∧ KR m m0
    ∧ qF [36, 39, 40, 54, 55, 56, 57, 58] m0 m ∧ o36l [5, 7, 37, 38, 39, 43, 44] m0 m
theorem ty0_V {H : HS} (h : HV H) : TV (ty0 H) := ⟨h, Nat.le_refl 0⟩
theorem r7rw0 {m0 : qaM} {S : SF} {w : Nat → Nat × Nat} {H : HS} (c : MH m0 H) : ∃ m, f_X7_keeps m0 = some m ∧ RW m m0 S w H 0 := by
  obtain ⟨m, e1, e2, e3, e4, e5⟩ := r7keeps m0
  exact ⟨m, e1, c.T e4 (by decide) (by decide) (by decide) (by decide) (by decide) e5 (by decide) (by decide) (by decide) (by decide), ⟨_, e3, fun i _ => rfl⟩, e2, e4.mo (by simp), e5.tr (o36l.rf [] _) (by simp) (by simp)⟩
theorem r7rwS {m m0 : qaM} {S : SF} {w : Nat → Nat × Nat} {H : HS} {j N : Nat} (h : RW m m0 S w H j) (hv : HV H) (t : TXr m0 N S) (sv : SV S) (hN : H.lw < N) (hj : j < 2 ^ 20) (hw : (w j).1 ≤ 8) (hh : (w j).2 ≤ 3) :
    ∃ m2, f_X7_weekBy m (nI j) (nI (w j).1) (nI (w j).2) = some m2 ∧ RW m2 m0 S w H (j + 1) := by
  obtain ⟨c, ⟨go, rt, hgo⟩, kr, hf, ho⟩ := h
  have vj := seqT_V (S := S) (w := w) (ty0_V hv) j
  have hli : (seqT S w j (ty0 H)).2.2.2.2 = j := by
    rw [vj.2.2]
    show 0 + j = j
    omega
  have hfi : (seqT S w j (ty0 H)).2.2.2.1 ≤ j := by
    have := vj.1.2
    rw [hli] at this
    exact this
  obtain ⟨m2, go2, e1, e2, e3, e4, e5, e6⟩ := r7week c vj.1.1 rt (t.F hf (by decide) (by decide)) sv (by rw [vj.2.1.2.2]; exact hN) hfi hj hw hh
  refine ⟨m2, e1, e2, ⟨go2, ?_, fun i hi => ?_⟩, ?_, hf.t2 e5 (by simp), ho.tr e6 (fun _ z => z) (by simp)⟩
  · have h1 : (seqT S w (j + 1) (ty0 H)).2.2.2.1 = fiN (seqT S w j (ty0 H)).2.2.2.1 (seqT S w j (ty0 H)).2.2.2.2 (lfH (seqT S w j (ty0 H)).1.A (seqT S w j (ty0 H)).1.n) (lfH (weekA S (w j).1 (w j).2 (seqT S w j (ty0 H)).1).1.A (weekA S (w j).1 (w j).2 (seqT S w j (ty0 H)).1).1.n) := rfl
    unfold RTY
    rw [h1, hli]
    exact e3
  · have hn : (seqT S w j (ty0 H)).1.n = H.n := vj.2.1.1
    rw [e4 i (by rw [hn]; exact hi), hgo i hi]
    show _ = if _ then (0 + j + 1) else _
    rw [Nat.zero_add]
    rfl
  · unfold KR
    rw [e5 57 (by decide), e5 58 (by decide), e6 43 (by decide), e6 44 (by decide)]
    exact kr
/-- after laying back -/
def RE (m m0 : qaM) (S : SF) (w : Nat → Nat × Nat) (H : HS) (j : Nat) : Prop :=
  MH m H ∧ (∃ go, RTY m (seqT S w j (ty0 H)) go ∧ ∀ i : Nat, i < H.n → go i = goN S w (ty0 H) j i) ∧ LR m H.n (seqT S w j (ty0 H)).1.A
    ∧ qF [36, 39, 40, 54, 55, 56, 57, 58, 59] m0 m ∧ o36l [37, 38, 39, 43, 44] m0 m
theorem r7rwE {m m0 : qaM} {S : SF} {w : Nat → Nat × Nat} {H : HS} {j : Nat} (h : RW m m0 S w H j) (hv : HV H) (c0 : MH m0 H) : ∃ m2, f_X7_laysBack m = some m2 ∧ RE m2 m0 S w H j := by
  obtain ⟨c, ⟨go, rt, hgo⟩, kr, hf, ho⟩ := h
  have vj := seqT_V (S := S) (w := w) (ty0_V hv) j
  have n8 := hv.n8
  have p8 := c0.2.1.2.1
  obtain ⟨m2, e1, e2, e3, e4, e5, e6, e7⟩ := r7laysBack m
  have f2 : qF [36, 39, 40, 54, 55, 56, 57, 58, 59] m0 m2 := (hf.mo (by simp)).t2 e6 (by simp)
  have o2 : o36l [37, 38, 39, 43, 44] m0 m2 := by
    intro a ha
    by_cases q5 : a = 5
    · rw [q5, e4, kr.2.2.1]
    · by_cases q7 : a = 7
      · rw [q7, e5, kr.2.2.2]
      · rw [e7 a (by simp; omega)]
        refine ho a ?_
        simp at ha ⊢
        omega
  refine ⟨m2, e1, ⟨⟨fun i hi => ?_, fun i hi => ?_, fun i k hi hk h4 => ?_⟩, ⟨?_, p8, fun a ha => ?_⟩, ?_, ?_, ?_, ?_⟩, ⟨go, ?_, hgo⟩, fun i k hi hk h4 => ?_, f2, o2⟩
  · rw [f2 37 (by decide)]
    exact c0.1.1 i hi
  · rw [f2 38 (by decide)]
    exact c0.1.2.1 i hi
  · rw [(e2 _ (by omega)).2, kr.1 _ (by omega)]
    exact c0.1.2.2 i k hi hk h4
  · rw [o2 5 (by decide)]
    exact c0.2.1.1
  · rw [e3 a (by omega), kr.2.1 a (by omega)]
    exact c0.2.1.2.2 a ha
  · rw [f2 41 (by decide)]
    exact c0.2.2.1
  · rw [o2 0 (by decide)]
    exact c0.2.2.2.1
  · rw [o2 7 (by decide)]
    exact c0.2.2.2.2.1
  · rw [o2 13 (by decide)]
    exact c0.2.2.2.2.2
  · exact rt.F e6 (by decide) e7 (by decide) (by decide) (by decide)
  · rw [(e2 _ (by omega)).1]
    exact c.1.2.2 i k (by rw [vj.2.1.1]; exact hi) hk h4
/-- a run of weeks by the rules, and back -/
def wR (H : HS) : Nat → Nat × Nat := fun _ => (H.R 0, H.R 2)
theorem r7goes {m0 : qaM} {S : SF} {H : HS} {n N : Nat} (c : MH m0 H) (hv : HV H) (t : TXr m0 N S) (sv : SV S) (hN : H.lw < N) (hn : n ≤ 300) : ∃ m2, f_X7_goes m0 (nI n) = some m2 ∧ RE m2 m0 S (wR H) H n := by
  obtain ⟨m1, a1, a2⟩ := r7rw0 (S := S) (w := wR H) c
  have hr := hv.rs
  obtain ⟨r, h1, h2⟩ := lp_at (f := fun s : qaM × Int32 => b_X7_goes_6 s.1 (nI n) s.2) (fun j s => s.2 = nI j ∧ RW s.1 m0 S (wR H) H j) (fun r => RE r m0 S (wR H) H n) n (s := (m1, (0 : Int32))) ⟨li_0, a2⟩ (by omega) (by
    rintro j ⟨x, k⟩ hj ⟨hk, hx⟩
    have hk2 : k = nI j := hk
    replace hx : RW x m0 S (wR H) H j := hx
    subst hk2
    rcases Nat.lt_or_ge j n with q | q
    · obtain ⟨x2, g1, g2⟩ := r7rwS hx hv t sv hN (by omega) hr.1 hr.2.2.1
      refine Or.inl ⟨(x2, nI (j + 1)), ?_, q, rfl, g2⟩
      show b_X7_goes_6 x (nI n) (nI j) = _
      have h0 : x 41 = m0 41 := hx.2.2.2.1 41 (by decide)
      unfold b_X7_goes_6
      rw [h0, c.2.2.1 0 (by omega), c.2.2.1 2 (by omega)]
      have g1' : f_X7_weekBy x (nI j) (nI (H.R 0)) (nI (H.R 2)) = some x2 := g1
      ((try simp only [li_0, li_1, li_2, li_3, li_4, li_5, li_6, li_7, li_8, li_9, li_10, li_11, li_12, li_13, li_14, li_15, li_16, li_17, li_18, li_19, li_20, li_30, li_31, li_32, li_33, li_40, li_41, li_42, li_43, li_45, li_48, li_56, li_57, li_59, li_60, li_61, li_64, li_91, li_97, li_99, li_100, li_122, li_150, li_160, li_200, li_201, li_255, li_300, li_303, li_304, li_305, li_306, li_312, li_400, li_500, li_999, li_1003, li_3099, li_99999, li_100000, li_neg]); simp (disch := omega) only [ic_le_f, ic_le_t, ic_lt_f, ic_lt_t, ic_eq_f, ic_eq_t, ic_im, ic_mi, ic_mm_t, ic_mm_f, ic_mlt, ic_mle, ic_ilem, ic_iltm, ic_mmle_t, ic_mmle_f, pu_add, pu_mul, pu_in, pu_ck, pu_let, pu_cl, pu_cpok, pu_inr, Option.bind_some, ite_true, ite_false])
      rw [g1']
      ((try simp only [li_0, li_1, li_2, li_3, li_4, li_5, li_6, li_7, li_8, li_9, li_10, li_11, li_12, li_13, li_14, li_15, li_16, li_17, li_18, li_19, li_20, li_30, li_31, li_32, li_33, li_40, li_41, li_42, li_43, li_45, li_48, li_56, li_57, li_59, li_60, li_61, li_64, li_91, li_97, li_99, li_100, li_122, li_150, li_160, li_200, li_201, li_255, li_300, li_303, li_304, li_305, li_306, li_312, li_400, li_500, li_999, li_1003, li_3099, li_99999, li_100000, li_neg]); simp (disch := omega) only [ic_le_f, ic_le_t, ic_lt_f, ic_lt_t, ic_eq_f, ic_eq_t, ic_im, ic_mi, ic_mm_t, ic_mm_f, ic_mlt, ic_mle, ic_ilem, ic_iltm, ic_mmle_t, ic_mmle_f, pu_add, pu_mul, pu_in, pu_ck, pu_let, pu_cl, pu_cpok, pu_inr, Option.bind_some, ite_true, ite_false])
    · have hjn : j = n := by omega
      subst hjn
      obtain ⟨x2, g1, g2⟩ := r7rwE hx hv c
      refine Or.inr ⟨x2, ?_, g2⟩
      show b_X7_goes_6 x (nI j) (nI j) = _
      unfold b_X7_goes_6 b_X7_goes_34
      ((try simp only [li_0, li_1, li_2, li_3, li_4, li_5, li_6, li_7, li_8, li_9, li_10, li_11, li_12, li_13, li_14, li_15, li_16, li_17, li_18, li_19, li_20, li_30, li_31, li_32, li_33, li_40, li_41, li_42, li_43, li_45, li_48, li_56, li_57, li_59, li_60, li_61, li_64, li_91, li_97, li_99, li_100, li_122, li_150, li_160, li_200, li_201, li_255, li_300, li_303, li_304, li_305, li_306, li_312, li_400, li_500, li_999, li_1003, li_3099, li_99999, li_100000, li_neg]); simp (disch := omega) only [ic_le_f, ic_le_t, ic_lt_f, ic_lt_t, ic_eq_f, ic_eq_t, ic_im, ic_mi, ic_mm_t, ic_mm_f, ic_mlt, ic_mle, ic_ilem, ic_iltm, ic_mmle_t, ic_mmle_f, pu_add, pu_mul, pu_in, pu_ck, pu_let, pu_cl, pu_cpok, pu_inr, Option.bind_some, ite_true, ite_false])
      rw [g1]
      rfl)
  refine ⟨r, ?_, h2⟩
  unfold f_X7_goes
  rw [a1, Option.bind_some, lp_X7_goes_6]
  exact h1
