/-! PURE: the reference's reading, a step -/
theorem stpA_1 {B : Nat → Nat} {L p a : Nat} {h o : List Nat} : stpA B L (p, 1, a, h, o) = (if tknd B L p = 2 then some (tkE B L p, 0, a, (unw 7 h (o ++ [100000 + tkV B L p])).1, (unw 7 h (o ++ [100000 + tkV B L p])).2)
    else if 306 ≤ tknd B L p then some (tkE B L p, 0, a, (unw 7 h (o ++ [tknd B L p - 306])).1, (unw 7 h (o ++ [tknd B L p - 306])).2)
    else if opN h = 5 then none
    else if tknd B L p = 305 ∧ a = 1 then some (tkE B L p, 1, a, 13 :: h, o)
    else if tknd B L p = 45 then some (tkE B L p, 1, 0, 19 :: h, o)
    else if tknd B L p = 40 then some (tkE B L p, 1, 1, 0 :: h, o)
    else none) := rfl
theorem stpA_0 {B : Nat → Nat} {L p a : Nat} {h o : List Nat} : stpA B L (p, 0, a, h, o) = (if tknd B L p = 41 then (if (unw 1 h o).1 = [] then none else some (tkE B L p, 0, a, (unw 7 (unw 1 h o).1.tail (unw 1 h o).2).1, (unw 7 (unw 1 h o).1.tail (unw 1 h o).2).2))
  else if sgN (tknd B L p) = 0 then none
  else if rkN (sgN (tknd B L p)) = 4 then (if tp4 (unw 5 h o).1 = true then none else some (tkE B L p, 1, 0, sgN (tknd B L p) :: (unw 5 h o).1, (unw 5 h o).2))
  else some (tkE B L p, 1, if 12 < sgN (tknd B L p) then 0 else 1, sgN (tknd B L p) :: (unw (rkN (sgN (tknd B L p))) h o).1, (unw (rkN (sgN (tknd B L p))) h o).2)) := rfl
theorem hdC.lt {c : Nat} (h : hdC c) : c < 20 := by
  rcases h with h | h <;> omega
theorem wf_unw {r : Nat} {h o : List Nat} (hh : ∀ t ∈ h, hdC t) (oo : ∀ t ∈ o, t < 200000) : (∀ t ∈ (unw r h o).1, hdC t) ∧ (∀ t ∈ (unw r h o).2, t < 200000) :=
  ⟨unw_all r h o hh, unw_all2 r h o (fun t ht _ => by have := (hh t ht).lt; omega) oo⟩
theorem tkV_le {B : Nat → Nat} {L p : Nat} (h : tknd B L p = 2) : tkV B L p ≤ 9999 := by
  have h2 := tknd_ok B L p
  rw [h] at h2
  unfold tkP at h2
  rcases h2 with ⟨_, h3⟩ | ⟨_, _, ⟨w, w1, _, h3⟩ | ⟨_, h3⟩⟩ | ⟨h4, h5, h6, h3⟩ | ⟨_, _, _, h3⟩
  · omega
  · omega
  · omega
  · have he : tkE B L p - plK B L p ≤ 4 := by
      by_cases z : tkE B L p - plK B L p ≤ 4
      · exact z
      · rw [if_neg z] at h3
        omega
    have hE : tkE B L p = skF isDi B L (plK B L p + 1) := by
      unfold tkE
      rw [if_neg (by omega), if_neg (by rw [h5]; decide), if_pos h6]
    have hsk := skF_ok isDi B L (plK B L p + 1)
    refine nvF_9 he (fun i hi => ?_)
    cases i with
    | zero => exact h6
    | succ i => exact (hsk.2.2.1 (plK B L p + (i + 1)) (by omega) (by omega)).2
  · by_cases z : isSi (B (plK B L p)) = true
    · rw [if_pos z] at h3
      exact absurd h3.symm (isSi_2 z)
    · rw [if_neg z] at h3
      omega
theorem tkE_lt {B : Nat → Nat} {L p : Nat} (hp : p ≤ L) (h : tknd B L p ≠ 0) : p < tkE B L p ∧ tkE B L p ≤ L ∧ plK B L p < L := by
  obtain ⟨e1, e2, e3, e4, e5⟩ := tkE_ok B L p hp
  rcases Nat.lt_or_ge (plK B L p) L with q | q
  · have := e5 q
    omega
  · exact absurd (tknd_e q) h
def FailR (m x : qaM) (B : Nat → Nat) (L N p : Nat) (R : Option ((qaM × Int32 × Int32) ⊕ (Int32 × qaM))) : Prop := ∃ x2, R = some (.inr (nI 0, x2)) ∧ ∃ h o op e, UM m x2 N h o op e (plK B L p)
theorem rstepW {m x : qaM} {B : Nat → Nat} {L N p a q0 : Nat} {h o : List Nat} (t : TPR m B L) (h52 : ∀ k : Nat, k < 96 → m 52 k = nI (wtb.getD k 0)) (hN : N < 6) (wf : WFc L (p, 1, a, h, o)) (u : UM m x N h o (opN h) p q0) :
    (∃ p2 w2 a2 h2 o2 x2, stpA B L (p, 1, a, h, o) = some (p2, w2, a2, h2, o2) ∧ b_X7_eRead_14 x (nI 1) (nI a) = some (.inl (x2, nI w2, nI a2)) ∧ UM m x2 N h2 o2 (opN h2) p2 (plK B L p) ∧ WFc L (p2, w2, a2, h2, o2) ∧ p < p2)
    ∨ (stpA B L (p, 1, a, h, o) = none ∧ FailR m x B L N p (b_X7_eRead_14 x (nI 1) (nI a))) := by
  have hL := t.2.2.1
  obtain ⟨wl, pL, w1, a1, op5, hh, oo⟩ : h.length + o.length ≤ p ∧ p ≤ L ∧ 1 ≤ 1 ∧ a ≤ 1 ∧ opN h ≤ 5 ∧ (∀ t ∈ h, hdC t) ∧ (∀ t ∈ o, t < 200000) := wf
  obtain ⟨y, g1, g2, g3, g4, g5, g6⟩ := rgo (t.r8 u.1) (fun k hk => by rw [u.1.1 52 (by decide)]; exact h52 k hk) pL u.2.2.1
  have u1 := u.g g2 g3 g4
  have hkc := tknd_c B L p
  have hst : b_X7_eRead_14 x (nI 1) (nI a) = (if y 36 28 = nI 1 then b_X7_eRead_38 y (nI a) else if y 36 28 = nI 2 then b_X7_eRead_38 y (nI a) else if y 36 28 = nI 6 then (if nI a = nI 0 then b_X7_eRead_99 y (nI 1) else (Option.bind (f_X7_opensOne y (nI 13)) (fun q15 => if q15.1 = nI 0 then (qa_inr (some (((nI 0), q15.2)))) else (some (.inl (q15.2, nI 1, nI a)))))) else b_X7_eRead_99 y (nI 1)) := by
    unfold b_X7_eRead_14
    simp only [li_0, li_1, li_2, li_3, li_4, li_5, li_6, li_7, li_8, li_9, li_10, li_11, li_12, li_13, li_14, li_15, li_16, li_17, li_18, li_19, li_20, li_30, li_31, li_32, li_33, li_40, li_41, li_42, li_43, li_45, li_48, li_56, li_57, li_59, li_60, li_61, li_64, li_91, li_97, li_99, li_100, li_122, li_150, li_160, li_200, li_201, li_255, li_300, li_303, li_304, li_305, li_306, li_312, li_400, li_500, li_999, li_1003, li_3099, li_99999, li_100000, li_1000000, li_65, li_23, li_neg]
    rw [g1, Option.bind_some, if_neg n10]
  rw [hst, g5]
  -- a value put out
  have hput : ∀ c : Nat, c < 200000 → tknd B L p ≠ 0 → ∃ x2, b_X7_eRead_61 y (nI a) (nI c) = some (.inl (x2, nI 0, nI a)) ∧ UM m x2 N (unw 7 h (o ++ [c])).1 (unw 7 h (o ++ [c])).2 (opN (unw 7 h (o ++ [c])).1) (tkE B L p) (plK B L p) ∧ WFc L (tkE B L p, 0, a, (unw 7 h (o ++ [c])).1, (unw 7 h (o ++ [c])).2) := by
    intro c hc hk0
    obtain ⟨e1, e2, e3⟩ := tkE_lt pL hk0
    have hl : (o ++ [c]).length = o.length + 1 := by rw [List.length_append]; rfl
    obtain ⟨x1, d1, d2⟩ := rputs (c := c) u1 hN (by omega)
    obtain ⟨x2, d3, d4⟩ := runw (r := 7) d2 hN (by omega) (by omega) (by omega) (fun t ht => by have := (hh t ht).lt; omega)
    refine ⟨x2, ?_, d4, ?_⟩
    · unfold b_X7_eRead_61
      simp only [li_0, li_1, li_2, li_3, li_4, li_5, li_6, li_7, li_8, li_9, li_10, li_11, li_12, li_13, li_14, li_15, li_16, li_17, li_18, li_19, li_20, li_30, li_31, li_32, li_33, li_40, li_41, li_42, li_43, li_45, li_48, li_56, li_57, li_59, li_60, li_61, li_64, li_91, li_97, li_99, li_100, li_122, li_150, li_160, li_200, li_201, li_255, li_300, li_303, li_304, li_305, li_306, li_312, li_400, li_500, li_999, li_1003, li_3099, li_99999, li_100000, li_1000000, li_65, li_23, li_neg]
      rw [d1, Option.bind_some, d3, Option.bind_some]
    · have hlen := unw_len 7 h (o ++ [c])
      have hop := unw_opn 7 h (o ++ [c])
      obtain ⟨f1, f2⟩ := wf_unw (r := 7) hh (o := o ++ [c]) (fun t ht => by
        rcases List.mem_append.mp ht with z | z
        · exact oo t z
        · rw [List.mem_singleton] at z
          omega)
      exact ⟨by omega, e2, by omega, a1, by omega, f1, f2⟩
  by_cases k2 : tknd B L p = 2
  · obtain ⟨x2, d1, d2, d3⟩ := hput (100000 + tkV B L p) (by have := tkV_le k2; omega) (by omega)
    refine Or.inl ⟨_, _, _, _, _, x2, ?_, ?_, d2, d3, (tkE_lt pL (by omega)).1⟩
    · rw [stpA_1, if_pos k2]
    · have h29 := g6.1 k2
      rw [k2] at g5
      rw [k2]
      show (if nI 1 = nI 1 then _ else _) = _
      rw [if_pos rfl]
      unfold b_X7_eRead_38
      simp only [li_0, li_1, li_2, li_3, li_4, li_5, li_6, li_7, li_8, li_9, li_10, li_11, li_12, li_13, li_14, li_15, li_16, li_17, li_18, li_19, li_20, li_30, li_31, li_32, li_33, li_40, li_41, li_42, li_43, li_45, li_48, li_56, li_57, li_59, li_60, li_61, li_64, li_91, li_97, li_99, li_100, li_122, li_150, li_160, li_200, li_201, li_255, li_300, li_303, li_304, li_305, li_306, li_312, li_400, li_500, li_999, li_1003, li_3099, li_99999, li_100000, li_1000000, li_65, li_23, li_neg]
      rw [g5]
      show (if nI 1 = nI 1 then _ else _) = _
      rw [if_pos rfl, h29, pu_add, d1]
  by_cases k6 : 306 ≤ tknd B L p
  · obtain ⟨x2, d1, d2, d3⟩ := hput (tknd B L p - 306) (by omega) (by omega)
    have hrk : rK (tknd B L p) = nI 2 := by
      unfold rK
      rw [if_neg (by omega), if_neg (by omega), if_neg (by omega), if_neg (by omega), if_neg (by omega), if_neg (by omega)]
    refine Or.inl ⟨_, _, _, _, _, x2, ?_, ?_, d2, d3, (tkE_lt pL (by omega)).1⟩
    · rw [stpA_1, if_neg k2, if_pos k6]
    · have h29 := g6.2.2 k6
      rw [hrk] at g5
      rw [hrk, ic_eq_f (by omega) (by omega) (by omega), if_pos rfl]
      unfold b_X7_eRead_38
      simp only [li_0, li_1, li_2, li_3, li_4, li_5, li_6, li_7, li_8, li_9, li_10, li_11, li_12, li_13, li_14, li_15, li_16, li_17, li_18, li_19, li_20, li_30, li_31, li_32, li_33, li_40, li_41, li_42, li_43, li_45, li_48, li_56, li_57, li_59, li_60, li_61, li_64, li_91, li_97, li_99, li_100, li_122, li_150, li_160, li_200, li_201, li_255, li_300, li_303, li_304, li_305, li_306, li_312, li_400, li_500, li_999, li_1003, li_3099, li_99999, li_100000, li_1000000, li_65, li_23, li_neg]
      rw [g5, ic_eq_f (by omega) (by omega) (by omega), h29, d1]
  -- one that opens
  have hop1 : ∀ c : Nat, opC c = 1 → hdC c → tknd B L p ≠ 0 → (opN h = 5 ∧ f_X7_opensOne y (nI c) = some (nI 0, y)) ∨ (opN h ≠ 5 ∧ ∃ x2, f_X7_opensOne y (nI c) = some (nI 1, x2) ∧ UM m x2 N (c :: h) o (opN (c :: h)) (tkE B L p) (plK B L p) ∧ ∀ a2 : Nat, a2 ≤ 1 → WFc L (tkE B L p, 1, a2, c :: h, o)) := by
    intro c hc hd hk0
    obtain ⟨e1, e2, e3⟩ := tkE_lt pL hk0
    rcases ropens (t := c) u1 (by omega) hc op5 with z | ⟨z1, x2, z2, z3⟩
    · exact Or.inl z
    · refine Or.inr ⟨z1, x2, z2, z3, fun a2 ha2 => ⟨?_, e2, by omega, ha2, ?_, ?_, oo⟩⟩
      · rw [List.length_cons]
        omega
      · show opC c + opN h ≤ 5
        omega
      · intro t ht
        rcases List.mem_cons.mp ht with w | w
        · rw [w]
          exact hd
        · exact hh t w
  have ha1 : ∀ k : Nat, k < 306 → (k < 3 ∨ 40 ≤ k) → rK k = nI 1 → k = 2 := by decide +kernel
  have ha2 : ∀ k : Nat, k < 306 → (k < 3 ∨ 40 ≤ k) → rK k = nI 2 → k = 2 := by decide +kernel
  have ha3 : ∀ k : Nat, k < 306 → (k < 3 ∨ 40 ≤ k) → rK k = nI 6 → k = 305 := by decide +kernel
  have ha4 : ∀ k : Nat, k < 306 → (k < 3 ∨ 40 ≤ k) → rK k = nI 45 → k = 45 := by decide +kernel
  have ha5 : ∀ k : Nat, k < 306 → (k < 3 ∨ 40 ≤ k) → rK k = nI 40 → k = 40 := by decide +kernel
  have b1 : ¬ rK (tknd B L p) = nI 1 := fun z => k2 (ha1 _ (by omega) (by omega) z)
  have b2 : ¬ rK (tknd B L p) = nI 2 := fun z => k2 (ha2 _ (by omega) (by omega) z)
  have b3 : ¬ tknd B L p = 305 → ¬ rK (tknd B L p) = nI 6 := fun w z => w (ha3 _ (by omega) (by omega) z)
  have b4 : ¬ tknd B L p = 45 → ¬ rK (tknd B L p) = nI 45 := fun w z => w (ha4 _ (by omega) (by omega) z)
  have b5 : ¬ tknd B L p = 40 → ¬ rK (tknd B L p) = nI 40 := fun w z => w (ha5 _ (by omega) (by omega) z)
  rw [if_neg b1, if_neg b2]
  have hs0 : stpA B L (p, 1, a, h, o) = (if opN h = 5 then none
    else if tknd B L p = 305 ∧ a = 1 then some (tkE B L p, 1, a, 13 :: h, o)
    else if tknd B L p = 45 then some (tkE B L p, 1, 0, 19 :: h, o)
    else if tknd B L p = 40 then some (tkE B L p, 1, 1, 0 :: h, o)
    else none) := by rw [stpA_1, if_neg k2, if_neg k6]
  rw [hs0]
  have hF : FailR m x B L N p (some (.inr (nI 0, y))) := ⟨y, rfl, _, _, _, _, u1⟩
  by_cases k5 : tknd B L p = 305 ∧ a = 1
  · have hrk : rK (tknd B L p) = nI 6 := by
      rw [k5.1]
      rfl
    rw [hrk, if_pos rfl, k5.2, if_neg n10]
    rcases hop1 13 rfl (Or.inr (by omega)) (by omega) with ⟨z1, z2⟩ | ⟨z1, x2, z2, z3, z4⟩
    · refine Or.inr ⟨if_pos z1, ?_⟩
      rw [z2, Option.bind_some, if_pos rfl]
      exact hF
    · refine Or.inl ⟨_, _, _, _, _, x2, ?_, ?_, z3, z4 1 (by omega), (tkE_lt pL (by omega)).1⟩
      · rw [if_neg z1, if_pos ⟨k5.1, rfl⟩]
      · rw [z2, Option.bind_some, if_neg n10]
  have h6 : (if rK (tknd B L p) = nI 6 then (if nI a = nI 0 then b_X7_eRead_99 y (nI 1) else (Option.bind (f_X7_opensOne y (nI 13)) (fun q15 => if q15.1 = nI 0 then (qa_inr (some (((nI 0), q15.2)))) else (some (.inl (q15.2, nI 1, nI a)))))) else b_X7_eRead_99 y (nI 1)) = b_X7_eRead_99 y (nI 1) := by
    by_cases z : tknd B L p = 305
    · have ha : a = 0 := by
        rcases Nat.lt_or_ge a 1 with w | w
        · omega
        · exact absurd ⟨z, by omega⟩ k5
      rw [ha, if_pos (show nI 0 = nI 0 from rfl)]
      split <;> rfl
    · rw [if_neg (b3 z)]
  rw [h6, if_neg k5]
  unfold b_X7_eRead_99
  simp only [li_0, li_1, li_2, li_3, li_4, li_5, li_6, li_7, li_8, li_9, li_10, li_11, li_12, li_13, li_14, li_15, li_16, li_17, li_18, li_19, li_20, li_30, li_31, li_32, li_33, li_40, li_41, li_42, li_43, li_45, li_48, li_56, li_57, li_59, li_60, li_61, li_64, li_91, li_97, li_99, li_100, li_122, li_150, li_160, li_200, li_201, li_255, li_300, li_303, li_304, li_305, li_306, li_312, li_400, li_500, li_999, li_1003, li_3099, li_99999, li_100000, li_1000000, li_65, li_23, li_neg]
  rw [g5]
  by_cases c45 : tknd B L p = 45
  · have hrk : rK (tknd B L p) = nI 45 := by
      rw [c45]
      rfl
    rw [hrk, if_pos rfl]
    rcases hop1 19 rfl (Or.inr (by omega)) (by omega) with ⟨z1, z2⟩ | ⟨z1, x2, z2, z3, z4⟩
    · refine Or.inr ⟨if_pos z1, ?_⟩
      rw [z2, Option.bind_some, if_pos rfl]
      exact hF
    · refine Or.inl ⟨_, _, _, _, _, x2, ?_, ?_, z3, z4 0 (by omega), (tkE_lt pL (by omega)).1⟩
      · rw [if_neg z1, if_pos c45]
      · rw [z2, Option.bind_some, if_neg n10]
  rw [if_neg (b4 c45), if_neg c45]
  by_cases c40 : tknd B L p = 40
  · have hrk : rK (tknd B L p) = nI 40 := by
      rw [c40]
      rfl
    rw [hrk, if_pos rfl]
    rcases hop1 0 rfl (Or.inl rfl) (by omega) with ⟨z1, z2⟩ | ⟨z1, x2, z2, z3, z4⟩
    · refine Or.inr ⟨if_pos z1, ?_⟩
      rw [z2, Option.bind_some, if_pos rfl]
      exact hF
    · refine Or.inl ⟨_, _, _, _, _, x2, ?_, ?_, z3, z4 1 (by omega), (tkE_lt pL (by omega)).1⟩
      · rw [if_neg z1, if_pos c40]
      · rw [z2, Option.bind_some, if_neg n10]
  rw [if_neg (b5 c40), if_neg c40]
  refine Or.inr ⟨?_, hF⟩
  split <;> rfl
