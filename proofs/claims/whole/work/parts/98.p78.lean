/-! PURE: the reference's reading, a step after a value -/
theorem rkN_p {c : Nat} (h : hdC c) (h1 : rkN c < 1) : c = 0 := by
  rcases h with h | ⟨h2, h3⟩
  · exact h
  · have : ∀ c : Nat, c < 20 → 11 ≤ c → 1 ≤ rkN c := by decide
    have := this c (by omega) h2
    omega
def OkR (m x : qaM) (B : Nat → Nat) (L N p : Nat) (o : List Nat) (R : Option ((qaM × Int32 × Int32) ⊕ (Int32 × qaM))) : Prop := ∃ x2, R = some (.inr (nI 1, x2)) ∧ UM m x2 N [] o 0 (tkE B L p) (plK B L p)
theorem rstepN {m x : qaM} {B : Nat → Nat} {L N p a q0 : Nat} {h o : List Nat} (t : TPR m B L) (h52 : ∀ k : Nat, k < 96 → m 52 k = nI (wtb.getD k 0)) (hN : N < 6) (wf : WFc L (p, 0, a, h, o)) (u : UM m x N h o (opN h) p q0) :
    (∃ p2 w2 a2 h2 o2 x2, stpA B L (p, 0, a, h, o) = some (p2, w2, a2, h2, o2) ∧ b_X7_eRead_14 x (nI 0) (nI a) = some (.inl (x2, nI w2, nI a2)) ∧ UM m x2 N h2 o2 (opN h2) p2 (plK B L p) ∧ WFc L (p2, w2, a2, h2, o2) ∧ p < p2)
    ∨ (stpA B L (p, 0, a, h, o) = none ∧ okA B L (p, 0, a, h, o) ∧ OkR m x B L N p (unw 1 h o).2 (b_X7_eRead_14 x (nI 0) (nI a)))
    ∨ (stpA B L (p, 0, a, h, o) = none ∧ ¬ okA B L (p, 0, a, h, o) ∧ FailR m x B L N p (b_X7_eRead_14 x (nI 0) (nI a))) := by
  have hL := t.2.2.1
  obtain ⟨wl, pL, w1, a1, op5, hh, oo⟩ : h.length + o.length ≤ p ∧ p ≤ L ∧ 0 ≤ 1 ∧ a ≤ 1 ∧ opN h ≤ 5 ∧ (∀ t ∈ h, hdC t) ∧ (∀ t ∈ o, t < 200000) := wf
  obtain ⟨y, g1, g2, g3, g4, g5, g6⟩ := rgo (t.r8 u.1) (fun k hk => by rw [u.1.1 52 (by decide)]; exact h52 k hk) pL u.2.2.1
  have u1 := u.g g2 g3 g4
  have hkc := tknd_c B L p
  have hc30 : ∀ t ∈ h, t < 2 ^ 30 := fun t ht => by have := (hh t ht).lt; omega
  have hst : b_X7_eRead_14 x (nI 0) (nI a) = (if y 36 28 = nI 59 then qa_inr (b_X7_eRead_159 y) else if y 36 28 = nI 41 then (Option.bind (f_X7_unwinds y (nI 1)) (fun q6 => if (q6 36 32) = nI 0 then (qa_inr (some (((nI 0), q6)))) else (qa_lt (qa_st q6 36 32 ((q6 36 32) - nI 1)) (fun m7 => qa_lt (qa_st m7 36 33 ((m7 36 33) - nI 1)) (fun m8 => Option.bind (f_X7_unwinds m8 (nI 7)) (fun q9 => some (.inl (q9, nI 0, nI a)))))))) else (Option.bind (f_X7_signOf y) (fun q4 => if q4 = nM 1 then (qa_inr (some (((nI 0), y)))) else (Option.bind (f_X7_between y q4) (fun q5 => if q5.1 = nI 0 then (qa_inr (some (((nI 0), q5.2)))) else (if nI 12 < q4 then (b_X7_eRead_262 q5.2 (nI 1) (nI 0)) else (b_X7_eRead_262 q5.2 (nI 1) (nI 1)))))))) := by
    unfold b_X7_eRead_14
    simp only [li_0, li_1, li_2, li_3, li_4, li_5, li_6, li_7, li_8, li_9, li_10, li_11, li_12, li_13, li_14, li_15, li_16, li_17, li_18, li_19, li_20, li_30, li_31, li_32, li_33, li_40, li_41, li_42, li_43, li_45, li_48, li_56, li_57, li_59, li_60, li_61, li_64, li_91, li_97, li_99, li_100, li_122, li_150, li_160, li_200, li_201, li_255, li_300, li_303, li_304, li_305, li_306, li_312, li_400, li_500, li_999, li_1003, li_3099, li_99999, li_100000, li_1000000, li_65, li_23, li_neg]
    rw [g1, Option.bind_some, if_pos trivial]
  rw [hst, g5]
  have ha1 : ∀ k : Nat, k < 312 → (k < 3 ∨ 40 ≤ k) → rK k = nI 59 → k = 59 := by decide +kernel
  have ha2 : ∀ k : Nat, k < 312 → (k < 3 ∨ 40 ≤ k) → rK k = nI 41 → k = 41 := by decide +kernel
  obtain ⟨x1, d1, d2⟩ := runw (r := 1) u1 hN (by omega) (by omega) (by omega) hc30
  have hlen1 := unw_len 1 h o
  obtain ⟨f1, f2⟩ := wf_unw (r := 1) hh oo
  have d32 := d2.2.2.2.2.1
  have d33 := d2.2.2.2.2.2.1
  by_cases k59 : tknd B L p = 59
  · have hrk : rK (tknd B L p) = nI 59 := by
      rw [k59]
      rfl
    have hs : stpA B L (p, 0, a, h, o) = none := by
      have : sgN 59 = 0 := rfl
      rw [stpA_0, k59, if_neg (by omega), if_pos this]
    rw [hrk, if_pos rfl]
    have h159 : b_X7_eRead_159 y = if (unw 1 h o).1 = [] then some (nI 1, x1) else some (nI 0, x1) := by
      unfold b_X7_eRead_159
      simp only [li_0, li_1, li_2, li_3, li_4, li_5, li_6, li_7, li_8, li_9, li_10, li_11, li_12, li_13, li_14, li_15, li_16, li_17, li_18, li_19, li_20, li_30, li_31, li_32, li_33, li_40, li_41, li_42, li_43, li_45, li_48, li_56, li_57, li_59, li_60, li_61, li_64, li_91, li_97, li_99, li_100, li_122, li_150, li_160, li_200, li_201, li_255, li_300, li_303, li_304, li_305, li_306, li_312, li_400, li_500, li_999, li_1003, li_3099, li_99999, li_100000, li_1000000, li_65, li_23, li_neg]
      rw [d1, Option.bind_some, d32]
      cases hc : (unw 1 h o).1 with
      | nil => rw [List.length_nil, if_pos rfl, if_pos rfl]
      | cons t s =>
        rw [hc] at hlen1
        rw [List.length_cons] at hlen1 ⊢
        rw [ic_eq_f (by omega) (by omega) (by omega), if_neg (by simp)]
    by_cases z : (unw 1 h o).1 = []
    · refine Or.inr (Or.inl ⟨hs, ⟨rfl, k59, z⟩, x1, ?_, ?_⟩)
      · rw [h159, if_pos z]
        rfl
      · rw [z] at d2
        exact d2
    · refine Or.inr (Or.inr ⟨hs, fun w => z w.2.2, x1, ?_, _, _, _, _, d2⟩)
      rw [h159, if_neg z]
      rfl
  rw [if_neg (fun z => k59 (ha1 _ (by omega) (by omega) z))]
  have hno : ¬ okA B L (p, 0, a, h, o) := fun w => k59 w.2.1
  by_cases k41 : tknd B L p = 41
  · have hrk : rK (tknd B L p) = nI 41 := by
      rw [k41]
      rfl
    obtain ⟨e1, e2, e3⟩ := tkE_lt (B := B) pL (by omega)
    rw [hrk, if_pos rfl, d1, Option.bind_some, d32]
    cases hc : (unw 1 h o).1 with
    | nil =>
      refine Or.inr (Or.inr ⟨?_, hno, x1, ?_, _, _, _, _, d2⟩)
      · rw [stpA_0, if_pos k41, if_pos hc]
      · rw [List.length_nil, if_pos rfl]
        rfl
    | cons t s =>
      have htr := unw_tr (r := 1) h o
      rw [hc] at hlen1 d2 f1 htr d33
      rw [List.length_cons] at hlen1 ⊢
      have ht0 : t = 0 := rkN_p (f1 t (List.mem_cons_self ..)) htr
      have hop : opN (t :: s) = 1 + opN s := by
        rw [ht0]
        rfl
      have hopl := unw_opn 1 h o
      rw [hc, hop] at hopl
      have p33 : (qa_st x1 36 32 (nI s.length)) 36 33 = nI (1 + opN s) := by rw [st_s, up_n (by omega), d33, hop]
      have d3 := (d2.pop).opn (op2 := opN s)
      have hs30 : ∀ t ∈ s, t < 2 ^ 30 := fun t ht => by have := (f1 t (List.mem_cons_of_mem _ ht)).lt; omega
      obtain ⟨x2, d4, d5⟩ := runw (r := 7) d3 hN (by omega) (by omega) (by omega) hs30
      have hlen7 := unw_len 7 s (unw 1 h o).2
      have hop7 := unw_opn 7 s (unw 1 h o).2
      obtain ⟨j1, j2⟩ := wf_unw (r := 7) (h := s) (fun t ht => f1 t (List.mem_cons_of_mem _ ht)) f2
      refine Or.inl ⟨tkE B L p, 0, a, _, _, x2, ?_, ?_, d5, ⟨by omega, e2, by omega, a1, by omega, j1, j2⟩, e1⟩
      · rw [stpA_0, if_pos k41, if_neg (by rw [hc]; simp), hc]
        rfl
      · rw [ic_eq_f (by omega) (by omega) (by omega), pu_sub (by omega), show s.length + 1 - 1 = s.length by omega, pu_let, p33, pu_sub (by omega), show 1 + opN s - 1 = opN s by omega, pu_let, d4, Option.bind_some]
  rw [if_neg (fun z => k41 (ha2 _ (by omega) (by omega) z)), rsign (k := tknd B L p) (by omega) g5, Option.bind_some]
  by_cases s0 : sgN (tknd B L p) = 0
  · rw [if_pos s0, if_pos rfl]
    refine Or.inr (Or.inr ⟨?_, hno, y, rfl, _, _, _, _, u1⟩)
    rw [stpA_0, if_neg k41, if_pos s0]
  have hv := sgN_c s0
  have hk0 : tknd B L p ≠ 0 := by
    intro z
    rw [z] at s0
    exact s0 rfl
  obtain ⟨e1, e2, e3⟩ := tkE_lt (B := B) pL hk0
  rw [if_neg s0, ic_im (by omega) (by omega) (by omega)]
  rw [stpA_0, if_neg k41, if_neg s0]
  generalize hvv : sgN (tknd B L p) = v at hv s0
  have hoc : opC v = 0 := if_neg (by omega)
  have hcont : ∀ r : Nat, 1 ≤ r → ∀ a2 : Nat, a2 ≤ 1 → WFc L (tkE B L p, 1, a2, v :: (unw r h o).1, (unw r h o).2) := by
    intro r _ a2 ha2
    have hlen := unw_len r h o
    have hop := unw_opn r h o
    obtain ⟨j1, j2⟩ := wf_unw (r := r) hh oo
    refine ⟨?_, e2, by omega, ha2, ?_, ?_, j2⟩
    · rw [List.length_cons]
      omega
    · show opC v + opN (unw r h o).1 ≤ 5
      omega
    · intro t ht
      rcases List.mem_cons.mp ht with w | w
      · rw [w]
        exact Or.inr (by omega)
      · exact j1 t w
  obtain ⟨x2, ⟨c1, c2, c3, c4⟩ | ⟨c1, c3, c4⟩⟩ := rbetw u1 hN (by omega) hc30 hv
  · rw [c3, Option.bind_some, if_pos rfl, if_pos c1, if_pos c2]
    exact Or.inr (Or.inr ⟨rfl, hno, x2, rfl, _, _, _, _, c4⟩)
  · have h262 : (if nI 12 < nI v then (b_X7_eRead_262 x2 (nI 1) (nI 0)) else (b_X7_eRead_262 x2 (nI 1) (nI 1))) = some (.inl (x2, nI 1, nI (if 12 < v then 0 else 1))) := by
      by_cases z : 12 < v
      · rw [ic_lt_t z (by omega), if_pos z]
        rfl
      · rw [ic_lt_f (by omega) (by omega), if_neg z]
        rfl
    rw [c3, Option.bind_some, if_neg n10, h262]
    refine Or.inl ?_
    by_cases z : rkN v = 4
    · have h12 : 12 < v := by
        rcases Nat.lt_or_ge 12 v with q | q
        · exact q
        · have : v = 11 ∨ v = 12 := by omega
          rcases this with rfl | rfl <;> exact absurd z (by decide)
      have hu : rkU v = 5 := if_pos z
      rw [hu] at c4
      have c2 : ¬ tp4 (unw 5 h o).1 = true := fun w => c1 ⟨z, w⟩
      rw [if_pos z, if_neg c2]
      exact ⟨_, _, _, _, _, x2, rfl, by rw [if_pos h12], c4, hcont 5 (by omega) 0 (by omega), e1⟩
    · have hu : rkU v = rkN v := if_neg z
      rw [hu] at c4
      have hv1 : 1 ≤ rkN v := by
        have : v = 11 ∨ v = 12 ∨ v = 14 ∨ v = 15 ∨ v = 16 ∨ v = 17 ∨ v = 18 := by omega
        rcases this with rfl | rfl | rfl | rfl | rfl | rfl | rfl <;> decide
      rw [if_neg z]
      exact ⟨_, _, _, _, _, x2, rfl, rfl, c4, hcont _ hv1 _ (by split <;> omega), e1⟩
