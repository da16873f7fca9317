/-! PURE: a text's part, on both sides -/
def C9 (N : Nat) (m x : qaM) : Prop := qF [1, 2, 3, 6] m x ∧ x 6 0 = m 6 0 ∧ (∀ k : Nat, k ≠ 5 → x 1 k = m 1 k) ∧ (∀ k : Nat, (k < 160 * N ∨ 160 * N + 160 ≤ k) → x 2 k = m 2 k) ∧ ∀ k : Nat, (k < 3 * N ∨ 3 * N + 3 ≤ k) → x 3 k = m 3 k
theorem C9.rf (N : Nat) (m : qaM) : C9 N m m := ⟨qF.rf _ _, rfl, fun _ _ => rfl, fun _ _ => rfl, fun _ _ => rfl⟩
theorem C9.c6 {N : Nat} {m x y : qaM} (h : C9 N m x) (h2 : C6 N x y) : C9 N m y := ⟨h.1.t2 h2.1 (by simp), h2.2.1.trans h.2.1, fun k hk => (h2.2.2.1 k hk).trans (h.2.2.1 k hk), fun k hk => (h2.2.2.2 k hk).trans (h.2.2.2.1 k hk), fun k hk => by rw [h2.1 3 (by decide)]; exact h.2.2.2.2 k hk⟩
theorem C9.st3 {N : Nat} {m x : qaM} (h : C9 N m x) {k : Nat} {v : Int32} (hk : 3 * N ≤ k ∧ k < 3 * N + 3) : C9 N m (qa_st x 3 k v) := ⟨h.1.stl (by simp), by rw [st_n (by omega)]; exact h.2.1, fun j hj => by rw [st_n (by omega)]; exact h.2.2.1 j hj, fun j hj => by rw [st_n (by omega)]; exact h.2.2.2.1 j hj, fun j hj => by rw [st_s, up_n (by omega)]; exact h.2.2.2.2 j hj⟩
theorem TPb.c9 {N : Nat} {m x : qaM} {B : Nat → Nat} {L : Nat} (t : TPb m B L) (h : C9 N m x) : TPb x B L := t.F h.2.1 (by rw [h.1 36 (by decide)]) (h.1 7 (by decide)) (h.1 42 (by decide))
def R9 (N : Nat) (m x : qaM) : Prop := qF [36, 43, 44, 53] m x ∧ (∀ k : Nat, (k < 26 ∨ 29 < k) → (k < 32 ∨ 34 < k) → x 36 k = m 36 k) ∧ (∀ k : Nat, (k < 200 * N ∨ 200 * N + 200 ≤ k) → x 43 k = m 43 k) ∧ ∀ k : Nat, (k < 4 * N ∨ 4 * N + 4 ≤ k) → x 44 k = m 44 k
theorem R9.rf (N : Nat) (m : qaM) : R9 N m m := ⟨qF.rf _ _, fun _ _ _ => rfl, fun _ _ => rfl, fun _ _ => rfl⟩
theorem R9.r8 {N : Nat} {m x y : qaM} (h : R9 N m x) (h2 : r8F N x y) : R9 N m y := ⟨h.1.t2 h2.1 (by simp), fun k h3 h4 => (h2.2.1 k h3 h4).trans (h.2.1 k h3 h4), fun k hk => (h2.2.2 k hk).trans (h.2.2.1 k hk), fun k hk => by rw [h2.1 44 (by decide)]; exact h.2.2.2 k hk⟩
theorem R9.st44 {N : Nat} {m x : qaM} (h : R9 N m x) {k : Nat} {v : Int32} (hk : 4 * N ≤ k ∧ k < 4 * N + 4) : R9 N m (qa_st x 44 k v) := ⟨h.1.stl (by simp), fun j h3 h4 => by rw [st_n (by omega)]; exact h.2.1 j h3 h4, fun j hj => by rw [st_n (by omega)]; exact h.2.2.1 j hj, fun j hj => by rw [st_s, up_n (by omega)]; exact h.2.2.2 j hj⟩
theorem TPR.r9 {N : Nat} {m x : qaM} {B : Nat → Nat} {L : Nat} (t : TPR m B L) (h : R9 N m x) : TPR x B L := t.F (h.2.1 9 (by omega) (by omega)) (h.1 42 (by decide))
/-- the codes of the first parts -/
def oW (W : Nat → List Nat) : Nat → List Nat
  | 0 => []
  | i + 1 => oW W i ++ W i
theorem oW_cg {W W2 : Nat → List Nat} : ∀ i : Nat, (∀ j : Nat, j < i → W j = W2 j) → oW W i = oW W2 i := by
  intro i
  induction i with
  | zero => exact fun _ => rfl
  | succ i ih =>
    intro h
    show oW W i ++ W i = oW W2 i ++ W2 i
    rw [ih (fun j hj => h j (by omega)), h i (by omega)]
theorem oW_all {W : Nat → List Nat} {P : Nat → Prop} : ∀ i : Nat, (∀ j : Nat, j < i → ∀ c ∈ W j, P c) → ∀ c ∈ oW W i, P c := by
  intro i
  induction i with
  | zero => exact fun _ c hc => by cases hc
  | succ i ih =>
    intro h c hc
    rcases List.mem_append.mp hc with z | z
    · exact ih (fun j hj => h j (by omega)) c z
    · exact h i (by omega) c z
def PTc (m x : qaM) (B : Nat → Nat) (L N i p : Nat) (W : Nat → List Nat) : Prop := C9 N m x ∧ tkC x B L p ∧ ouC x N (oW W i) ∧ ∀ j : Nat, j < i → x 3 (3 * N + j) = nI (oW W (j + 1)).length
def PTr (m y : qaM) (N i p : Nat) (W : Nat → List Nat) : Prop := R9 N m y ∧ y 36 26 = nI p ∧ y 36 34 = nI (oW W i).length ∧ otM y N (oW W i) ∧ ∀ j : Nat, j < i → y 44 (4 * N + j) = nI (oW W j).length
def PTw (L i p : Nat) (W : Nat → List Nat) : Prop := p ≤ L ∧ (oW W i).length ≤ p ∧ ∀ j : Nat, j < i → (∀ c ∈ W j, stC c) ∧ htL (W j) 0 = some 1
theorem stC.lt {c : Nat} (h : stC c) : c < 200000 := by
  rcases h with h | h | h <;> omega
theorem kpart {m mr x y : qaM} {B : Nat → Nat} {L N i p : Nat} {W : Nat → List Nat} (t : TPb m B L) (tr : TPR mr B L) (h52 : ∀ k : Nat, k < 96 → mr 52 k = nI (wtb.getD k 0)) (hm : m 1 0 = nI N) (h12 : mr 36 12 = nI N) (hN : N < 6) (hi : i < 3) (pc : PTc m x B L N i p W) (pr : PTr mr y N i p W) (pw : PTw L i p W) :
    (∃ x2 y2 p2 w, b_X4_readsInto_11 x (nI i) = some (.inl (x2, nI (i + 1))) ∧ b_X7_text_26 y (nI 1) (nI i) = some (.inl (y2, nI 1, nI (i + 1))) ∧ PTc m x2 B L N (i + 1) p2 (fun j => if j = i then w else W j) ∧ PTr mr y2 N (i + 1) p2 (fun j => if j = i then w else W j) ∧ PTw L (i + 1) p2 (fun j => if j = i then w else W j))
    ∨ (∃ x2 y2 P, P ≤ L ∧ b_X4_readsInto_11 x (nI i) = some (.inr (nI P, x2)) ∧ C9 N m x2 ∧ b_X7_text_26 y (nI 1) (nI i) = some (.inl (y2, nI 0, nI (i + 1))) ∧ R9 N mr y2 ∧ y2 36 27 = nI P) := by
  have hL := t.2.2.1
  obtain ⟨c1, c2, c3, c4⟩ := pc
  obtain ⟨r1, r2, r3, r4, r5⟩ := pr
  obtain ⟨w1, w2, w3⟩ := pw
  obtain ⟨_, _, e3, _, _⟩ := tkE_ok B L p w1
  have hkc := tknd_c B L p
  have ty := tr.r9 r1
  have tx := t.c9 c1
  have y52 : ∀ k : Nat, k < 96 → y 52 k = nI (wtb.getD k 0) := fun k hk => by rw [r1.1 52 (by decide)]; exact h52 k hk
  have y12 : y 36 12 = nI N := by rw [r1.2.1 12 (by omega) (by omega), h12]
  have x10 : x 1 0 = nI N := by rw [c1.2.2.1 0 (by omega), hm]
  obtain ⟨y3, g1, g2, g3, g4, g5, g6⟩ := rgo ty y52 w1 r2
  have g2b : r8F N y y3 := (r8F.rf N y).r7 g2
  have z12 : y3 36 12 = nI N := by rw [g2.2 12 (by omega), y12]
  have z34 : y3 36 34 = nI (oW W i).length := by rw [g2.2 34 (by omega), r3]
  -- the part's begin is kept
  generalize hy4 : qa_st y3 44 (4 * N + i) (nI (oW W i).length) = y4
  have f1 : R9 N mr y4 := by
    rw [← hy4]
    exact (r1.r8 g2b).st44 (by omega)
  have h93 : ∀ q : qaM, b_X7_text_93 q (nI i) = some (.inl (q, nI 0, nI (i + 1))) := by
    intro q
    unfold b_X7_text_93 b_X7_text_94
    simp only [li_0, li_1, li_2, li_3, li_4, li_5, li_6, li_7, li_8, li_9, li_10, li_11, li_12, li_13, li_14, li_15, li_16, li_17, li_18, li_19, li_20, li_30, li_31, li_32, li_33, li_40, li_41, li_42, li_43, li_45, li_48, li_56, li_57, li_59, li_60, li_61, li_64, li_91, li_97, li_99, li_100, li_122, li_150, li_160, li_200, li_201, li_255, li_300, li_303, li_304, li_305, li_306, li_312, li_400, li_500, li_999, li_1003, li_3099, li_99999, li_100000, li_1000000, li_65, li_23, li_neg]
    rw [pu_add, pu_let]
  have h60 : ∀ s : Nat, s ≤ 1 → b_X7_text_60 y3 (nI i) (nI s) = if s = 0 then some (.inl (y4, nI 0, nI (i + 1))) else (Option.bind (f_X7_eRead y4) (fun q12 => if q12.1 = nI 0 then (b_X7_text_93 q12.2 (nI i)) else (b_X7_text_94 q12.2 (nI i) (nI 1)))) := by
    intro s hs
    unfold b_X7_text_60
    simp only [li_0, li_1, li_2, li_3, li_4, li_5, li_6, li_7, li_8, li_9, li_10, li_11, li_12, li_13, li_14, li_15, li_16, li_17, li_18, li_19, li_20, li_30, li_31, li_32, li_33, li_40, li_41, li_42, li_43, li_45, li_48, li_56, li_57, li_59, li_60, li_61, li_64, li_91, li_97, li_99, li_100, li_122, li_150, li_160, li_200, li_201, li_255, li_300, li_303, li_304, li_305, li_306, li_312, li_400, li_500, li_999, li_1003, li_3099, li_99999, li_100000, li_1000000, li_65, li_23, li_neg]
    rw [z12, pu_mul, pu_add, pu_in (by omega) (by omega), pu_ck, pu_cl (by omega), z34, hy4, pu_let]
    by_cases z : s = 0
    · rw [ic_eq_t z, if_pos z, h93]
    · rw [ic_eq_f z (by omega) (by omega), if_neg z]
  have hb26 : b_X7_text_26 y (nI 1) (nI i) = if tknd B L p = 300 + i then b_X7_text_60 y3 (nI i) (nI 1) else b_X7_text_60 y3 (nI i) (nI 0) := by
    have ha1 : ∀ k : Nat, k < 312 → (k < 3 ∨ 40 ≤ k) → rK k = nI 3 → 300 ≤ k ∧ k < 303 := by decide +kernel
    unfold b_X7_text_26 b_X7_text_59
    simp only [li_0, li_1, li_2, li_3, li_4, li_5, li_6, li_7, li_8, li_9, li_10, li_11, li_12, li_13, li_14, li_15, li_16, li_17, li_18, li_19, li_20, li_30, li_31, li_32, li_33, li_40, li_41, li_42, li_43, li_45, li_48, li_56, li_57, li_59, li_60, li_61, li_64, li_91, li_97, li_99, li_100, li_122, li_150, li_160, li_200, li_201, li_255, li_300, li_303, li_304, li_305, li_306, li_312, li_400, li_500, li_999, li_1003, li_3099, li_99999, li_100000, li_1000000, li_65, li_23, li_neg]
    rw [ic_le_f hi (by omega), if_neg n10, g1, Option.bind_some, g5]
    by_cases z : 300 ≤ tknd B L p ∧ tknd B L p < 303
    · have hrk : rK (tknd B L p) = nI 3 := by
        unfold rK
        rw [if_neg (by omega), if_neg (by omega), if_neg (by omega), if_neg (by omega), if_pos (by omega)]
      rw [hrk, if_pos rfl, g6.2.1 z.1 z.2]
      by_cases w : tknd B L p = 300 + i
      · rw [ic_eq_t (by omega), if_pos w]
      · rw [ic_eq_f (by omega) (by omega) (by omega), if_neg w]
    · rw [if_neg (fun w => z (ha1 _ (by omega) (by omega) w)), if_neg (by omega)]
  by_cases hk : tknd B L p = 300 + i
  · obtain ⟨i1, i2, i3⟩ := tkE_lt (B := B) w1 (show tknd B L p ≠ 0 by omega)
    obtain ⟨x3, k1, k2, k3, k4⟩ := kgoC tx (C6.rf N x) c2 c3 w1
    have c9 := c1.c6 k2
    have t3 := t.c9 c9
    have hm3 : x3 1 0 = nI N := by rw [c9.2.2.1 0 (by omega), hm]
    obtain ⟨b, x4, l1, l2, l3⟩ := kRD t3 hm3 hN 60 0 (tkE B L p) 1 [] (oW W i) x3 (by omega) (show (6 - 0) + 6 * (5 - 0) ≤ 60 by omega) ⟨fun _ => trivial, fun z => by omega, fun z => by omega, fun z => by omega, fun z => by omega, fun _ => rfl, fun z => by omega⟩ (Nat.zero_le _) (C6.rf N x3) k3 k4 i2 (by omega)
    have hop0 : opN [] = 0 := rfl
    rw [hop0] at l1
    have v26 : y4 36 26 = nI (tkE B L p) := by rw [← hy4, st_n (by omega), g3]
    have v27 : y4 36 27 = nI (plK B L p) := by rw [← hy4, st_n (by omega), g4]
    have v12 : y4 36 12 = nI N := by rw [← hy4, st_n (by omega), z12]
    have v34 : y4 36 34 = nI (oW W i).length := by rw [← hy4, st_n (by omega), z34]
    have v43 : otM y4 N (oW W i) := by
      intro j hj
      rw [← hy4, st_n (by omega), g2.1 43 (by decide)]
      exact r4 j hj
    have v52 : ∀ k : Nat, k < 96 → y4 52 k = nI (wtb.getD k 0) := fun k hk => by rw [f1.1 52 (by decide)]; exact h52 k hk
    have hoc : ∀ c ∈ oW W i, c < 200000 := oW_all i (fun j hj c hc => ((w3 j hj).1 c hc).lt)
    have hR : ∀ d : Cf, Rch B L (tkE B L p, 1, 1, [], oW W i) d → stpA B L d = none → _ := fun d h1 h2 => rread (tr.r9 f1) v52 hN h1 h2 i2 (show (oW W i).length ≤ tkE B L p by omega) hoc (r8F.rf N y4) v12 v26 v27 v34 v43
    have hb11 : b_X4_readsInto_11 x (nI i) = (if nI b = nI 0 then (qa_inr (some (x4 6 2, x4))) else (if x4 6 4 = nI 59 then (Option.bind (f_X4_goesOn x4) (fun q5 => Option.bind (f_X5_endsPart q5 (nI i)) (fun q6 => qa_lt (nI i + nI 1) (fun x7 => some (.inl (q6, x7)))))) else (qa_inr (some (x4 6 2, x4))))) := by
      unfold b_X4_readsInto_11
      simp only [li_0, li_1, li_2, li_3, li_4, li_5, li_6, li_7, li_8, li_9, li_10, li_11, li_12, li_13, li_14, li_15, li_16, li_17, li_18, li_19, li_20, li_30, li_31, li_32, li_33, li_40, li_41, li_42, li_43, li_45, li_48, li_56, li_57, li_59, li_60, li_61, li_64, li_91, li_97, li_99, li_100, li_122, li_150, li_160, li_200, li_201, li_255, li_300, li_303, li_304, li_305, li_306, li_312, li_400, li_500, li_999, li_1003, li_3099, li_99999, li_100000, li_1000000, li_65, li_23, li_neg]
      rw [ic_le_f hi (by omega), c2.2.2.1, pu_add, ic_eq_t hk, k1, Option.bind_some, l1, Option.bind_some]
    have c94 := c9.c6 l2
    rw [hb11, hb26, if_pos hk, h60 1 (by omega), if_neg (show ¬ (1 : Nat) = 0 by omega)]
    rcases l3 with ⟨rfl, p3, w, τ, q, a3, j1, j2, j3, j4, j5, j6, j7, j8, j9, j10⟩ | ⟨rfl, j1, d, j2, j3, j4, j5, j6⟩
    · have hu1 : unw 1 τ q = ([], oW W i ++ w) := (show unw 1 τ q = unw 1 [] (oW W i ++ w) from j9).trans rfl
      have hkc3 := tknd_c B L p3
      obtain ⟨_, _, e33, _, _⟩ := tkE_ok B L p3 j2
      rw [if_neg n10, j3.2.2.1]
      by_cases h59 : tknd B L p3 = 59
      · have hst : stpA B L (p3, 0, a3, τ, q) = none := by
          have : sgN 59 = 0 := rfl
          rw [stpA_0, h59, if_neg (by omega), if_pos this]
        obtain ⟨m1, m2, m3⟩ := tkE_lt (B := B) j2 (show tknd B L p3 ≠ 0 by omega)
        rcases hR _ j8 hst with ⟨o1, y5, o2, o3⟩ | ⟨o1, _⟩
        · have o3b : UM y4 y5 N [] (oW W i ++ w) 0 (tkE B L p3) (plK B L p3) := by
            have : (unw 1 τ q).2 = oW W i ++ w := by rw [hu1]
            rw [← this]
            exact o3
          obtain ⟨x5, s1, s2, s3, s4⟩ := kgoC (t.c9 c94) (C6.rf N x4) j3 j4 j2
          have c95 := c94.c6 s2
          have x510 : x5 1 0 = nI N := by rw [c95.2.2.1 0 (by omega), hm]
          have hlw : (oW W i ++ w).length = (oW W i).length + w.length := List.length_append
          have hW : ∀ j : Nat, j ≤ i → oW (fun j => if j = i then w else W j) j = oW W j := fun j hj => oW_cg j (fun j2 hj2 => if_neg (by omega))
          have hWi : oW (fun j => if j = i then w else W j) (i + 1) = oW W i ++ w := by
            show oW (fun j => if j = i then w else W j) i ++ (if i = i then w else W i) = _
            rw [hW i (Nat.le_refl _), if_pos rfl]
          refine Or.inl ⟨qa_st x5 3 (3 * N + i) (nI (oW W i ++ w).length), y5, tkE B L p3, w, ?_, ?_, ⟨c95.st3 (by omega), ?_, ?_, ?_⟩, ⟨f1.r8 o3b.1, o3b.2.2.1, ?_, ?_, ?_⟩, ⟨m2, ?_, ?_⟩⟩
          · rw [ic_eq_t h59, s1, Option.bind_some]
            have hen : f_X5_endsPart x5 (nI i) = some (qa_st x5 3 (3 * N + i) (nI (oW W i ++ w).length)) := by
              unfold f_X5_endsPart
              simp only [li_0, li_1, li_2, li_3, li_4, li_5, li_6, li_7, li_8, li_9, li_10, li_11, li_12, li_13, li_14, li_15, li_16, li_17, li_18, li_19, li_20, li_30, li_31, li_32, li_33, li_40, li_41, li_42, li_43, li_45, li_48, li_56, li_57, li_59, li_60, li_61, li_64, li_91, li_97, li_99, li_100, li_122, li_150, li_160, li_200, li_201, li_255, li_300, li_303, li_304, li_305, li_306, li_312, li_400, li_500, li_999, li_1003, li_3099, li_99999, li_100000, li_1000000, li_65, li_23, li_neg]
              rw [x510, if_neg (nI_nlt (Nat.zero_le _) (by omega)), ic_le_f (by omega) (by omega), if_neg (nI_nlt (Nat.zero_le _) (by omega)), ic_le_f hi (by omega), pu_mul, pu_add, pu_in (by omega) (by omega), pu_ck, pu_cl (by omega), s4.1, show N * 3 + i = 3 * N + i by omega, pu_let]
            rw [hen, Option.bind_some, pu_add, pu_let]
          · rw [o2, Option.bind_some, if_neg n10]
            unfold b_X7_text_94
            simp only [li_0, li_1, li_2, li_3, li_4, li_5, li_6, li_7, li_8, li_9, li_10, li_11, li_12, li_13, li_14, li_15, li_16, li_17, li_18, li_19, li_20, li_30, li_31, li_32, li_33, li_40, li_41, li_42, li_43, li_45, li_48, li_56, li_57, li_59, li_60, li_61, li_64, li_91, li_97, li_99, li_100, li_122, li_150, li_160, li_200, li_201, li_255, li_300, li_303, li_304, li_305, li_306, li_312, li_400, li_500, li_999, li_1003, li_3099, li_99999, li_100000, li_1000000, li_65, li_23, li_neg]
            rw [pu_add, pu_let]
          · exact s3.cg (fun k => by rw [st_n (by omega)])
          · rw [hWi]
            refine ⟨?_, fun j hj => ?_⟩
            · rw [st_n (by omega)]
              exact s4.1
            · rw [st_n (by omega)]
              exact s4.2 j hj
          · intro j hj
            by_cases z : j = i
            · rw [z, hWi, st_s, up_s]
            · rw [hW (j + 1) (by omega), st_s, up_n (by omega), s2.1 3 (by decide), l2.1 3 (by decide), k2.1 3 (by decide)]
              exact c4 j (by omega)
          · rw [hWi]
            exact o3b.2.2.2.2.2.2.1
          · rw [hWi]
            exact o3b.2.2.2.2.2.2.2.2
          · intro j hj
            rw [hW j (by omega), o3b.1.1 44 (by decide), ← hy4, st_s]
            by_cases z : j = i
            · rw [z, up_s]
            · rw [up_n (by omega), g2.1 44 (by decide)]
              exact r5 j (by omega)
          · rw [hWi]
            omega
          · intro j hj
            by_cases z : j = i
            · show (∀ c ∈ (if j = i then w else W j), stC c) ∧ htL (if j = i then w else W j) 0 = some 1
              rw [if_pos z]
              exact ⟨j6, j7 0⟩
            · show (∀ c ∈ (if j = i then w else W j), stC c) ∧ htL (if j = i then w else W j) 0 = some 1
              rw [if_neg z]
              exact w3 j (by omega)
        · exact absurd ⟨rfl, h59, by rw [hu1]⟩ o1
      · have hst : stpA B L (p3, 0, a3, τ, q) = none := by
          by_cases h41 : tknd B L p3 = 41
          · rw [stpA_0, if_pos h41, hu1, if_pos rfl]
          · exact stuck0 j10 h41
        rcases hR _ j8 hst with ⟨o1, _⟩ | ⟨o1, y5, o2, ho, oo, op, oe, o3⟩
        · exact absurd o1.2.1 h59
        · refine Or.inr ⟨x4, y5, plK B L p3, e33, ?_, c94, ?_, f1.r8 o3.1, o3.2.2.2.1⟩
          · rw [ic_eq_f h59 (by omega) (by omega), j3.1]
            rfl
          · rw [o2, Option.bind_some, if_pos rfl, h93]
    · rcases hR _ j4 j5 with ⟨o1, _⟩ | ⟨o1, y5, o2, ho, oo, op, oe, o3⟩
      · exact absurd o1 j6
      · obtain ⟨_, _, e33, _, _⟩ := tkE_ok B L d.1 j2
        refine Or.inr ⟨x4, y5, plK B L d.1, e33, ?_, c94, ?_, f1.r8 o3.1, o3.2.2.2.1⟩
        · rw [if_pos rfl, j3]
          rfl
        · rw [o2, Option.bind_some, if_pos rfl, h93]
  · refine Or.inr ⟨x, y4, plK B L p, e3, ?_, c1, ?_, f1, ?_⟩
    · unfold b_X4_readsInto_11
      simp only [li_0, li_1, li_2, li_3, li_4, li_5, li_6, li_7, li_8, li_9, li_10, li_11, li_12, li_13, li_14, li_15, li_16, li_17, li_18, li_19, li_20, li_30, li_31, li_32, li_33, li_40, li_41, li_42, li_43, li_45, li_48, li_56, li_57, li_59, li_60, li_61, li_64, li_91, li_97, li_99, li_100, li_122, li_150, li_160, li_200, li_201, li_255, li_300, li_303, li_304, li_305, li_306, li_312, li_400, li_500, li_999, li_1003, li_3099, li_99999, li_100000, li_1000000, li_65, li_23, li_neg]
      rw [ic_le_f hi (by omega), c2.2.2.1, pu_add, ic_eq_f hk (by omega) (by omega), c2.1]
      rfl
    · rw [hb26, if_neg hk, h60 0 (by omega), if_pos rfl]
    · rw [← hy4, st_n (by omega), g4]
