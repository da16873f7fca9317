/-! PURE: when -/
/-- the reference's walk, from any tally: what r7rwS does, with a turn or without -/
def RX (m m0 : qaM) (X : TY) (gf : Nat → Nat) (n : Nat) : Prop :=
  MH m X.1 ∧ (∃ go, RTY m X go ∧ ∀ i : Nat, i < n → go i = gf i) ∧ KR m m0 ∧ qF [36, 39, 40, 54, 55, 56, 57, 58] m0 m ∧ o36l [5, 7, 37, 38, 39, 43, 44, 46] m0 m
theorem r7rxS {m m0 : qaM} {S : SF} {X : TY} {gf : Nat → Nat} {n N wan how : Nat} (h : RX m m0 X gf n) (hv : TV X) (hn : X.1.n = n) (t : TXr m0 N S) (sv : SV S) (hN : X.1.lw < N) (hj : X.2.2.2.2 < 2 ^ 20) (hw : wan ≤ 8) (hh : how ≤ 3) :
    ∃ m2, f_X7_weekBy m (nI X.2.2.2.2) (nI wan) (nI how) = some m2 ∧ RX m2 m0 (wkT S wan how X) (fun i => if (wkT S wan how X).1.A i 7 = 1 ∧ ¬ X.1.A i 7 = 1 then X.2.2.2.2 + 1 else gf i) n := by
  obtain ⟨c, ⟨go, rt, hgo⟩, kr, hf, ho⟩ := h
  obtain ⟨m2, go2, e1, e2, e3, e4, e5, e6⟩ := r7week c hv.1 rt (t.F hf (by decide) (by decide)) sv hN hv.2 hj hw hh
  refine ⟨m2, e1, e2, ⟨go2, e3, fun i hi => ?_⟩, ?_, hf.t2 e5 (by simp), ho.tr e6 (fun _ z => z) (by simp)⟩
  · rw [e4 i (by rw [hn]; exact hi), hgo i hi]
    rfl
  · unfold KR
    rw [e5 57 (by decide), e5 58 (by decide), e6 43 (by decide), e6 44 (by decide)]
    exact kr
/-- a turn within the walk -/
def turnT (i : Nat) (X : TY) : TY := (turnA X.1 i, X.2)
theorem turnT_V {i : Nat} {X : TY} (h : TV X) (hi : i < X.1.n) : TV (turnT i X) := ⟨turnA_V h.1 hi, h.2⟩
theorem r7rxT {m m0 : qaM} {X : TY} {gf : Nat → Nat} {n i : Nat} (h : RX m m0 X gf n) (hv : TV X) (hn : X.1.n = n) (hi : i < n) :
    ∃ m2, f_X7_turns m (nI i) = some m2 ∧ RX (qa_st m2 36 46 (nI 1)) m0 (turnT i X) gf n := by
  obtain ⟨c, ⟨go, rt, hgo⟩, kr, hf, ho⟩ := h
  obtain ⟨m2, e1, e2, e3⟩ := r7turns c hv.1 (by rw [hn]; exact hi)
  have f1 : qF [36, 39] m (qa_st m2 36 46 (nI 1)) := (e3.mo (by simp)).stl (by simp)
  have o1 : o36l [46] m (qa_st m2 36 46 (nI 1)) := (o36l.q (k := []) e3 (by simp)).tr (o36l.st _ _ _) (by simp) (fun _ z => z)
  refine ⟨m2, e1, e2.T (qF.st m2 36 46 (nI 1)) (by simp) (by simp) (by simp) (by simp) (by simp) (o36l.st _ _ _) (by simp) (by simp) (by simp) (by simp), ⟨go, rt.F f1 (by simp) o1 (by simp) (by simp) (by simp), hgo⟩, ?_, hf.t2 f1 (by simp), ho.tr o1 (fun _ z => z) (by simp)⟩
  unfold KR
  rw [f1 57 (by decide), f1 58 (by decide), o1 43 (by decide), o1 44 (by decide)]
  exact kr
theorem r7rxE {m m0 : qaM} {X : TY} {gf : Nat → Nat} {n : Nat} {H : HS} (h : RX m m0 X gf n) (c0 : MH m0 H) (n8 : H.n ≤ 8) :
    ∃ m2, f_X7_laysBack m = some m2 ∧ MH m2 H ∧ (∃ go, RTY m2 X go ∧ ∀ i : Nat, i < n → go i = gf i) ∧ qF rL m0 m2 ∧ o36l [37, 38, 39, 43, 44, 46] m0 m2 ∧ m2 36 46 = m 36 46 := by
  obtain ⟨c, ⟨go, rt, hgo⟩, kr, hf, ho⟩ := h
  have p8 := c0.2.1.2.1
  obtain ⟨m2, e1, e2, e3, e4, e5, e6, e7⟩ := r7laysBack m
  have f2 : qF rL m0 m2 := (hf.mo (by simp [rL])).t2 e6 (by simp [rL])
  have o2 : o36l [37, 38, 39, 43, 44, 46] m0 m2 := by
    intro a ha
    by_cases q5 : a = 5
    · rw [q5, e4, kr.2.2.1]
    · by_cases q7 : a = 7
      · rw [q7, e5, kr.2.2.2]
      · rw [e7 a (by simp; omega)]
        refine ho a ?_
        simp at ha ⊢
        omega
  refine ⟨m2, e1, ⟨⟨fun i hi => ?_, fun i hi => ?_, fun i k hi hk h4 => ?_⟩, ⟨?_, p8, fun a ha => ?_⟩, ?_, ?_, ?_, ?_⟩, ⟨go, ?_, hgo⟩, f2, o2, e7 46 (by decide)⟩
  · have e37 : m2 37 = m0 37 := (e6 37 (by decide)).trans (hf 37 (by decide))
    rw [e37]
    exact c0.1.1 i hi
  · have e38 : m2 38 = m0 38 := (e6 38 (by decide)).trans (hf 38 (by decide))
    rw [e38]
    exact c0.1.2.1 i hi
  · rw [(e2 _ (by omega)).2, kr.1 _ (by omega)]
    exact c0.1.2.2 i k hi hk h4
  · rw [o2 5 (by decide)]
    exact c0.2.1.1
  · rw [e3 a (by omega), kr.2.1 a (by omega)]
    exact c0.2.1.2.2 a ha
  · have e41 : m2 41 = m0 41 := (e6 41 (by decide)).trans (hf 41 (by decide))
    rw [e41]
    exact c0.2.2.1
  · rw [o2 0 (by decide)]
    exact c0.2.2.2.1
  · rw [o2 7 (by decide)]
    exact c0.2.2.2.2.1
  · rw [o2 13 (by decide)]
    exact c0.2.2.2.2.2
  · exact rt.F e6 (by decide) e7 (by decide) (by decide) (by decide)
/-- the week in which one went, from 1 on, walking d weeks by the rules from X; z: it hadn't gone, or had so -/
def gnF (S : SF) (R : Nat → Nat) (i z : Nat) : Nat → TY → Nat
  | 0, _ => z
  | d + 1, X => if (wkT S (R 0) (R 2) X).1.A i 7 = 1 ∧ ¬ X.1.A i 7 = 1 then gnF S R i (X.2.2.2.2 + 1) d (wkT S (R 0) (R 2) X) else gnF S R i z d (wkT S (R 0) (R 2) X)
theorem wk_cl {S : SF} {wan how : Nat} {X : TY} (hv : TV X) {i : Nat} (hi : i < X.1.n) (h : X.1.A i 7 = 1) : (wkT S wan how X).1.A i 7 = 1 := by
  show (weekA S wan how X.1).1.A i 7 = 1
  have v := hv.1
  rw [weekA_1]
  have h1 : (cb X.1).A i 7 = X.1.A i 7 := cb_7 X.1 i
  have h2 : (tak wan how (cb X.1)).1.A i 7 = 1 := by rw [tak_A, h1, h]
  have va := cb_V v
  have vt := tak_V (wan := wan) (how := how) va.1
  have h3 : (yel S (tak wan how (cb X.1)).1).A i 7 = 1 := by rw [yel_7, h2]
  have vy := yel_V (S := S) vt.1 vt.2.1
  have h4 : (was S (tak wan how (cb X.1)).2.2 (yel S (tak wan how (cb X.1)).1)).A i 7 = 1 := by
    refine itN_ind (fun j (x : HS) => x.A i 7 = 1) (yel S (tak wan how (cb X.1)).1).n h3 (fun j x hj q => ?_) _ (Nat.le_refl _)
    by_cases e : i = j
    · subst e
      unfold waS
      split
      · split
        · split
          · show (if i = i then _ else _ : AL) 7 = 1
            rw [if_pos rfl]
            exact q
          · rw [setA_s]
            exact q
        · rw [setA_s, aU_s]
      · exact q
    · rw [waS_cl e]
      exact q
  have h5 : ∀ (p : Nat) (Y : HS), Y.A i 7 = 1 → (drN p Y).A i 7 = 1 := by
    intro p
    induction p with
    | zero => exact fun Y h => h
    | succ p ih =>
      intro Y hY
      refine ih _ ?_
      unfold drS
      split
      · by_cases e : i = Y.P.getD p 0
        · rw [← e, setA_s, aU_s]
        · rw [setA_n e]
          exact hY
      · exact hY
  exact h5 _ _ h4
theorem gnF_st {S : SF} {R : Nat → Nat} {i : Nat} : ∀ (d : Nat) (z : Nat) (X : TY), TV X → i < X.1.n → X.1.A i 7 = 1 → gnF S R i z d X = z := by
  intro d
  induction d with
  | zero => exact fun _ _ _ _ _ => rfl
  | succ d ih =>
    intro z X hv hi h
    have hw := wkT_V (S := S) (wan := R 0) (how := R 2) hv
    rw [gnF, if_neg (fun q => q.2 h)]
    exact ih z _ hw.1 (by rw [hw.2.1.1]; exact hi) (wk_cl hv hi h)
theorem gnF_0 {S : SF} {R : Nat → Nat} {i : Nat} : ∀ (d : Nat) (X : TY), TV X → i < X.1.n → gnF S R i 0 d X ≤ X.2.2.2.2 + d := by
  intro d
  induction d with
  | zero => exact fun _ _ _ => Nat.zero_le _
  | succ d ih =>
    intro X hv hi
    have hw := wkT_V (S := S) (wan := R 0) (how := R 2) hv
    rw [gnF]
    split
    · rename_i q
      rw [gnF_st d _ _ hw.1 (by rw [hw.2.1.1]; exact hi) q.1]
      omega
    · have := ih _ hw.1 (by rw [hw.2.1.1]; exact hi)
      rw [hw.2.2] at this
      omega
theorem kisCl {m : qaM} {h i : Nat} {H : HS} (c : CH m h H) (v : HV H) (hi : i < 8) : f_X1_isCloths (h + 1) m (nI i) = some (if H.A i 7 = 1 then nI 1 else nI 0) := by
  have a6 := (v.av i).2.2.2.2.2.2.1
  rw [isCloths_ok c.1 hi]
  by_cases w : H.A i 7 = 1
  · have e : cF H.A i 6 = nM 1 := if_pos ⟨rfl, w⟩
    rw [if_pos e, if_pos w]
  · have e : cF H.A i 6 = nI (H.A i 6) := if_neg (fun z => w z.2)
    rw [if_neg (by rw [e]; exact fun z => nM_eqI (by omega) (by omega) (Or.inl (by omega)) z.symm), if_neg w]
/-- the class's walk to the week of cloths -/
theorem kcloths {m : qaM} {h i N : Nat} {H : HS} {S : SF} (hh : 8 ≤ h) (sv : SV S) (hi : i < 8) : ∀ (n : Nat) (X : TY), CY m h X → TV X → HK H X.1 → i < X.1.n → TXc m N S → H.lw < N → H.R 0 ≤ 8 → H.R 2 ≤ 3 → n ≤ 300 → X.2.2.2.2 < 2 ^ 19 → X.1.A i 7 = 0 →
    ∃ m2 p, f_X0_weekOfCloths h m (nI i) (nI n) = some (nI p, m2) ∧ (gnF S H.R i 0 n X = if p = n then 0 else X.2.2.2.2 + p + 1) ∧ p ≤ n ∧ qF [h, h + 2, h + 3, h + 4, 4, 5] m m2 := by
  intro n X c hv hk hin t hN h0 h2 hn hli h7
  obtain ⟨r, a1, a2, a3, a4⟩ := lp_at (f := fun s : qaM × Int32 => b_X0_weekOfCloths_15 h s.1 (nI i) (nI n) s.2) (fun j s => s.2 = nI j ∧ ∃ Y : TY, CY s.1 h Y ∧ TV Y ∧ HK H Y.1 ∧ Y.2.2.2.2 = X.2.2.2.2 + j ∧ Y.1.A i 7 = 0 ∧ Y.1.n = X.1.n ∧ gnF S H.R i 0 n X = gnF S H.R i 0 (n - j) Y ∧ qF [h, h + 2, h + 3, h + 4, 4, 5] m s.1) (fun q => (∃ p, q.1 = nI p ∧ (gnF S H.R i 0 n X = if p = n then 0 else X.2.2.2.2 + p + 1) ∧ p ≤ n) ∧ qF [h, h + 2, h + 3, h + 4, 4, 5] m q.2 ∧ True) n (s := (m, nI 0)) ⟨rfl, X, c, hv, hk, rfl, h7, rfl, rfl, qF.rf _ _⟩ (by omega) (by
    rintro j ⟨x, k⟩ hj ⟨hkk, Y, k1, k2, k3, k4, k5, k6, k7, k8⟩
    have hk2 : k = nI j := hkk
    subst hk2
    show (∃ s', b_X0_weekOfCloths_15 h x (nI i) (nI n) (nI j) = some (.inl s') ∧ _) ∨ (∃ q, b_X0_weekOfCloths_15 h x (nI i) (nI n) (nI j) = some (.inr q) ∧ _)
    replace k1 : CY x h Y := k1
    replace k8 : qF [h, h + 2, h + 3, h + 4, 4, 5] m x := k8
    unfold b_X0_weekOfCloths_15
    rcases Nat.lt_or_ge j n with q | q
    · obtain ⟨x2, g1, g2, g3⟩ := kweek (wan := H.R 0) (how := H.R 2) k1 k2 hh (t.F k8 (by simp <;> omega) (by simp <;> omega) (by simp <;> omega)) sv (by rw [k3.2.2]; exact hN) h0 h2 (by omega)
      have hw := wkT_V (S := S) (wan := H.R 0) (how := H.R 2) k2
      have r0 : x (h + 5) 0 = nI (H.R 0) := by
        rw [k1.1.2.2.1 0 (by omega), k3.2.1]
      have r2 : x (h + 5) 2 = nI (H.R 2) := by
        rw [k1.1.2.2.1 2 (by omega), k3.2.1]
      have hcl : f_X1_isCloths (h + 1) x2 (nI i) = some (if (wkT S (H.R 0) (H.R 2) Y).1.A i 7 = 1 then nI 1 else nI 0) := by
        exact kisCl g2.1 hw.1.1 hi
      have hd : n - j = (n - (j + 1)) + 1 := by omega
      rw [hd, gnF] at k7
      have f2 : qF [h, h + 2, h + 3, h + 4, 4, 5] m x2 := k8.t2 g3 (fun _ z => z)
      by_cases w : (wkT S (H.R 0) (H.R 2) Y).1.A i 7 = 1
      · rw [if_pos w] at hcl
        rw [if_pos ⟨w, by omega⟩, gnF_st _ _ _ hw.1 (by rw [hw.2.1.1, k6]; exact hin) w, k4] at k7
        refine Or.inr ⟨(nI j, x2), ?_, ⟨j, rfl, ?_, by omega⟩, f2, trivial⟩
        · rw [ic_le_f q (by omega), r0, r2, g1, Option.bind_some, hcl, Option.bind_some]
          ((try simp only [li_0, li_1, li_2, li_3, li_4, li_5, li_6, li_7, li_8, li_9, li_10, li_11, li_12, li_13, li_14, li_15, li_16, li_17, li_18, li_19, li_20, li_30, li_31, li_32, li_33, li_40, li_41, li_42, li_43, li_45, li_48, li_56, li_57, li_59, li_60, li_61, li_64, li_91, li_97, li_99, li_100, li_122, li_150, li_160, li_200, li_201, li_255, li_300, li_303, li_304, li_305, li_306, li_312, li_400, li_500, li_999, li_1003, li_3099, li_99999, li_100000, li_1000000, li_65, li_23, li_neg]); (try simp (disch := omega) only [ic_le_f, ic_le_t, ic_lt_f, ic_lt_t, ic_eq_f, ic_eq_t, ic_im, ic_mi, ic_mm_t, ic_mm_f, ic_mlt, ic_mle, ic_ilem, ic_iltm, ic_mmle_t, ic_mmle_f, pu_add, pu_mul, pu_in, pu_ck, pu_let, pu_cl, pu_cpok, pu_inr, Option.bind_some, ite_true, ite_false, pu_dm, pu_dv, pu_sub, nt_dm, if_true, if_false]))
        · rw [k7, if_neg (by omega)]
      · rw [if_neg w] at hcl
        rw [if_neg (fun z => w z.1)] at k7
        have a7 := (hw.1.1.av i).2.2.2.2.2.2.2
        refine Or.inl ⟨(x2, nI (j + 1)), ?_, q, rfl, wkT S (H.R 0) (H.R 2) Y, g2, hw.1, k3.tr hw.2.1, by rw [hw.2.2, k4]; omega, by omega, by rw [hw.2.1.1, k6], k7, f2⟩
        rw [ic_le_f q (by omega), r0, r2, g1, Option.bind_some, hcl, Option.bind_some]
        ((try simp only [li_0, li_1, li_2, li_3, li_4, li_5, li_6, li_7, li_8, li_9, li_10, li_11, li_12, li_13, li_14, li_15, li_16, li_17, li_18, li_19, li_20, li_30, li_31, li_32, li_33, li_40, li_41, li_42, li_43, li_45, li_48, li_56, li_57, li_59, li_60, li_61, li_64, li_91, li_97, li_99, li_100, li_122, li_150, li_160, li_200, li_201, li_255, li_300, li_303, li_304, li_305, li_306, li_312, li_400, li_500, li_999, li_1003, li_3099, li_99999, li_100000, li_1000000, li_65, li_23, li_neg]); (try simp (disch := omega) only [ic_le_f, ic_le_t, ic_lt_f, ic_lt_t, ic_eq_f, ic_eq_t, ic_im, ic_mi, ic_mm_t, ic_mm_f, ic_mlt, ic_mle, ic_ilem, ic_iltm, ic_mmle_t, ic_mmle_f, pu_add, pu_mul, pu_in, pu_ck, pu_let, pu_cl, pu_cpok, pu_inr, Option.bind_some, ite_true, ite_false, pu_dm, pu_dv, pu_sub, nt_dm, if_true, if_false]))
    · have : j = n := by omega
      subst this
      rw [Nat.sub_self, gnF] at k7
      refine Or.inr ⟨(nI j, x), ?_, ⟨j, rfl, by rw [k7, if_pos rfl], Nat.le_refl _⟩, k8, trivial⟩
      rw [ic_le_t (by omega) (by omega)]
      rfl)
  obtain ⟨p, e1, e2, e3⟩ := a2
  refine ⟨r.2, p, ?_, e2, e3, a3⟩
  have hcl : f_X1_isCloths (h + 1) m (nI i) = some (nI 0) := by
    rw [kisCl c.1 hv.1 hi, if_neg (by omega)]
  unfold f_X0_weekOfCloths
  simp only [li_0, li_1, li_2, li_3, li_4, li_5, li_6, li_7, li_8, li_9, li_10, li_11, li_12, li_13, li_14, li_15, li_16, li_17, li_18, li_19, li_20, li_30, li_31, li_32, li_33, li_40, li_41, li_42, li_43, li_45, li_48, li_56, li_57, li_59, li_60, li_61, li_64, li_91, li_97, li_99, li_100, li_122, li_150, li_160, li_200, li_201, li_255, li_300, li_303, li_304, li_305, li_306, li_312, li_400, li_500, li_999, li_1003, li_3099, li_99999, li_100000, li_1000000, li_65, li_23, li_neg]
  rw [hcl, Option.bind_some, if_pos rfl, lp_X0_weekOfCloths_15, a1, ← e1]
