/-! PURE: the reference reads a token -/
def r7F (m m2 : qaM) : Prop := qF [36] m m2 ∧ ∀ k : Nat, k < 26 ∨ 29 < k → m2 36 k = m 36 k
theorem r7F.rf (m : qaM) : r7F m m := ⟨qF.rf _ _, fun _ _ => rfl⟩
theorem r7F.st {m x : qaM} (h : r7F m x) {k : Nat} {v : Int32} (hk : 26 ≤ k ∧ k ≤ 29) : r7F m (qa_st x 36 k v) := ⟨h.1.stl (by simp), fun j hj => by rw [st_s, up_n (by omega)]; exact h.2 j hj⟩
theorem r7F.t {a b c : qaM} (h1 : r7F a b) (h2 : r7F b c) : r7F a c := ⟨fun x hx => (h2.1 x hx).trans (h1.1 x hx), fun k hk => (h2.2 k hk).trans (h1.2 k hk)⟩
/-- the tape, as the reference has it -/
def TPR (m : qaM) (B : Nat → Nat) (L : Nat) : Prop := True ∧ m 36 9 = nI L ∧ L ≤ 160 ∧ ∀ k : Nat, k < L → B k ≤ 255 ∧ True ∧ m 42 k = nI (B k)
theorem TPb.R {m : qaM} {B : Nat → Nat} {L : Nat} (t : TPb m B L) : TPR m B L := ⟨trivial, t.2.1, t.2.2.1, fun k hk => ⟨(t.2.2.2 k hk).1, trivial, (t.2.2.2 k hk).2.2⟩⟩
theorem TPR.F {m m2 : qaM} {B : Nat → Nat} {L : Nat} (t : TPR m B L) (h36 : m2 36 9 = m 36 9) (h42 : m2 42 = m 42) : TPR m2 B L := by
  unfold TPR
  rw [h36, h42]
  exact t
theorem TPR.r7 {m x : qaM} {B : Nat → Nat} {L : Nat} (t : TPR m B L) (h : r7F m x) : TPR x B L := t.F (h.2 9 (by omega)) (h.1 42 (by decide))
theorem isLe_d {b : Nat} (h : isLe b = true) : 97 ≤ b ∧ b ≤ 122 := of_decide_eq_true h
theorem skF_1 {P : Nat → Bool} {B : Nat → Nat} {L q j : Nat} (h0 : q < L ∧ P (B q) = true) (h1 : ∀ i : Nat, i < j → q + i < L ∧ P (B (q + i)) = true) (h2 : L ≤ q + j ∨ P (B (q + j)) = false) : skF P B L (q + 1) = q + j := by
  cases j with
  | zero =>
    rcases h2 with z | z
    · omega
    · rw [Nat.add_zero, h0.2] at z
      cases z
  | succ j =>
    rw [skF_u (j := j) (fun i hi => by rw [show q + 1 + i = q + (i + 1) by omega]; exact h1 (i + 1) (by omega)) (by rw [show q + 1 + j = q + (j + 1) by omega]; exact h2)]
    omega
def rhW (v : Nat) : Nat := if v < 3 then v else if v < 9 then v + 3 else v - 6
theorem wtb_q : ∀ v : Nat, v < 12 → ∀ k : Nat, k < 8 → wtb.getD (8 * v + k) 0 = if k < wlF (rhW v) then wcF (rhW v) k else 32 := by decide +kernel
theorem rhW_lt {v : Nat} (h : v < 12) : rhW v < 12 := by
  unfold rhW
  split
  · omega
  · split <;> omega
/-- a row of the table fits -/
def fitW (B : Nat → Nat) (q e v k : Nat) : Prop := wtb.getD (8 * v + k) 0 = if q + k < e then B (q + k) else 32
theorem fitW_m {B : Nat → Nat} {q e v : Nat} (hv : v < 12) (hq : q < e) (hl : ∀ i : Nat, q ≤ i → i < e → 97 ≤ B i ∧ B i ≤ 122) : MtW B q e (rhW v) ↔ e - q ≤ 8 ∧ ∀ k : Nat, k < 8 → fitW B q e v k := by
  obtain ⟨_, w2, w3⟩ := wl_q (rhW v) (rhW_lt hv)
  constructor
  · rintro ⟨h1, h2⟩
    refine ⟨by omega, fun k hk => ?_⟩
    unfold fitW
    rw [wtb_q v hv k hk]
    by_cases z : k < wlF (rhW v)
    · rw [if_pos z, if_pos (by omega), h2 k z]
    · rw [if_neg z, if_neg (by omega)]
  · rintro ⟨h1, h2⟩
    have hf : ∀ k : Nat, k < 8 → (if k < wlF (rhW v) then wcF (rhW v) k else 32) = if q + k < e then B (q + k) else 32 := fun k hk => (wtb_q v hv k hk).symm.trans (h2 k hk)
    have ha : ∀ k : Nat, k < wlF (rhW v) → q + k < e ∧ wcF (rhW v) k = B (q + k) := by
      intro k hk
      obtain ⟨_, c2, c3⟩ := wc_q (rhW v) (rhW_lt hv) k hk
      have := hf k (by omega)
      rw [if_pos hk] at this
      by_cases z : q + k < e
      · rw [if_pos z] at this
        exact ⟨z, this⟩
      · rw [if_neg z] at this
        omega
    refine ⟨?_, fun k hk => (ha k hk).2⟩
    have h3 := hf (wlF (rhW v)) (by omega)
    rw [if_neg (Nat.lt_irrefl _)] at h3
    have h4 := (ha (wlF (rhW v) - 1) (by omega)).1
    by_cases z : q + wlF (rhW v) < e
    · rw [if_pos z] at h3
      have := hl (q + wlF (rhW v)) (by omega) z
      omega
    · omega
theorem rword1 {m : qaM} {B : Nat → Nat} {L q e v : Nat} (t : TPR m B L) (h52 : ∀ k : Nat, k < 96 → m 52 k = nI (wtb.getD k 0)) (hv : v < 12) (hq : q < e) (he : e ≤ L) (hl : ∀ i : Nat, q ≤ i → i < e → 97 ≤ B i ∧ B i ≤ 122) :
    (MtW B q e (rhW v) ∧ b_X7_wordFrom_2 m (nI q) (nI e) (nI v) = some (.inr (nI v))) ∨ (¬ MtW B q e (rhW v) ∧ b_X7_wordFrom_2 m (nI q) (nI e) (nI v) = some (.inl (nI (v + 1)))) := by
  have hL := t.2.2.1
  have hwt : ∀ k : Nat, k < 8 → wtb.getD (8 * v + k) 0 ≤ 122 := by
    intro k hk
    rw [wtb_q v hv k hk]
    split
    · exact (wc_q _ (rhW_lt hv) k (by assumption)).2.2
    · omega
  have main : ∀ a0 : Nat, (a0 = 1 ∧ e - q ≤ 8) ∨ (a0 = 0 ∧ 8 < e - q) → ∃ r, b_X7_wordFrom_21 m (nI q) (nI e) (nI v) (nI a0) = some r ∧ ((MtW B q e (rhW v) ∧ r = .inr (nI v)) ∨ (¬ MtW B q e (rhW v) ∧ r = .inl (nI (v + 1)))) := by
    intro a0 ha0
    have h88 : ∀ a : Nat, a ≤ 1 → b_X7_wordFrom_88 m (nI q) (nI e) (nI v) (nI a) = if a = 0 then some (.inl (nI (v + 1))) else some (.inr (nI v)) := by
      intro a ha
      unfold b_X7_wordFrom_88
      simp only [li_0, li_1, li_2, li_3, li_4, li_5, li_6, li_7, li_8, li_9, li_10, li_11, li_12, li_13, li_14, li_15, li_16, li_17, li_18, li_19, li_20, li_30, li_31, li_32, li_33, li_40, li_41, li_42, li_43, li_45, li_48, li_56, li_57, li_59, li_60, li_61, li_64, li_91, li_97, li_99, li_100, li_122, li_150, li_160, li_200, li_201, li_255, li_300, li_303, li_304, li_305, li_306, li_312, li_400, li_500, li_999, li_1003, li_3099, li_99999, li_100000, li_1000000, li_65, li_23, li_neg]
      by_cases z : a = 0
      · rw [if_pos z, ic_eq_t z, pu_add, pu_let]
      · rw [if_neg z, ic_eq_f z (by omega) (by omega)]
        rfl
    obtain ⟨r, g1, g2⟩ := lp_at (f := fun s : Int32 × Int32 => b_X7_wordFrom_26 m (nI q) (nI e) (nI v) s.1 s.2) (fun j s => ∃ a : Nat, s = (nI a, nI j) ∧ j ≤ 8 ∧ ((a = 1 ∧ e - q ≤ 8 ∧ ∀ i : Nat, i < j → fitW B q e v i) ∨ (a = 0 ∧ ¬ MtW B q e (rhW v)))) (fun r => (MtW B q e (rhW v) ∧ r = .inr (nI v)) ∨ (¬ MtW B q e (rhW v) ∧ r = .inl (nI (v + 1)))) 8 (s := (nI a0, nI 0)) ⟨a0, rfl, Nat.zero_le _, by
      rcases ha0 with ⟨h1, h2⟩ | ⟨h1, h2⟩
      · exact Or.inl ⟨h1, h2, fun i hi => absurd hi (Nat.not_lt_zero _)⟩
      · exact Or.inr ⟨h1, fun z => by have := ((fitW_m hv hq hl).mp z).1; omega⟩⟩ (by omega) (by
      rintro j s hj ⟨a, rfl, a1, a2⟩
      rcases a2 with ⟨rfl, b1, b2⟩ | ⟨rfl, b1⟩
      · rcases Nat.lt_or_ge j 8 with y | y
        · have hst : b_X7_wordFrom_26 m (nI q) (nI e) (nI v) (nI 1) (nI j) = some (.inl (nI (if wtb.getD (8 * v + j) 0 = (if q + j < e then B (q + j) else 32) then 1 else 0), nI (j + 1))) := by
            have h80 : ∀ x y : Nat, x < 300 → y < 300 → b_X7_wordFrom_72 m (nI q) (nI e) (nI v) (nI j) (nI x) (nI y) = some (.inl (nI (if x = y then 1 else 0), nI (j + 1))) := by
              intro x y hx hy
              unfold b_X7_wordFrom_72 b_X7_wordFrom_80
              simp only [li_0, li_1, li_2, li_3, li_4, li_5, li_6, li_7, li_8, li_9, li_10, li_11, li_12, li_13, li_14, li_15, li_16, li_17, li_18, li_19, li_20, li_30, li_31, li_32, li_33, li_40, li_41, li_42, li_43, li_45, li_48, li_56, li_57, li_59, li_60, li_61, li_64, li_91, li_97, li_99, li_100, li_122, li_150, li_160, li_200, li_201, li_255, li_300, li_303, li_304, li_305, li_306, li_312, li_400, li_500, li_999, li_1003, li_3099, li_99999, li_100000, li_1000000, li_65, li_23, li_neg]
              by_cases z : x = y
              · rw [ic_eq_t z, if_pos z, pu_add, pu_let]
              · rw [ic_eq_f z (by omega) (by omega), if_neg z, pu_add, pu_let]
            have hw := hwt j y
            unfold b_X7_wordFrom_26
            simp only [li_0, li_1, li_2, li_3, li_4, li_5, li_6, li_7, li_8, li_9, li_10, li_11, li_12, li_13, li_14, li_15, li_16, li_17, li_18, li_19, li_20, li_30, li_31, li_32, li_33, li_40, li_41, li_42, li_43, li_45, li_48, li_56, li_57, li_59, li_60, li_61, li_64, li_91, li_97, li_99, li_100, li_122, li_150, li_160, li_200, li_201, li_255, li_300, li_303, li_304, li_305, li_306, li_312, li_400, li_500, li_999, li_1003, li_3099, li_99999, li_100000, li_1000000, li_65, li_23, li_neg]
            rw [ic_le_f y (by omega), if_neg n10, pu_mul, pu_add, pu_in (by omega) (by omega), pu_ck, pu_add, pu_cl (by omega), h52 _ (by omega)]
            by_cases z : q + j < e
            · have hb := (t.2.2.2 (q + j) (by omega)).1
              rw [ic_le_f z (by omega), pu_in (by omega) (by omega), pu_ck, pu_cl (by omega), (t.2.2.2 (q + j) (by omega)).2.2, h80 _ _ (by omega) (by omega), if_pos z]
            · rw [ic_le_t (by omega) (by omega), h80 _ _ (by omega) (by omega), if_neg z]
          refine Or.inl ⟨_, hst, y, _, rfl, by omega, ?_⟩
          by_cases z : wtb.getD (8 * v + j) 0 = (if q + j < e then B (q + j) else 32)
          · refine Or.inl ⟨if_pos z, b1, fun i hi => ?_⟩
            by_cases u : i = j
            · rw [u]
              exact z
            · exact b2 i (by omega)
          · exact Or.inr ⟨if_neg z, fun w => z (((fitW_m hv hq hl).mp w).2 j y)⟩
        · refine Or.inr ⟨.inr (nI v), ?_, Or.inl ⟨(fitW_m hv hq hl).mpr ⟨b1, fun k hk => b2 k (by omega)⟩, rfl⟩⟩
          show b_X7_wordFrom_26 m (nI q) (nI e) (nI v) (nI 1) (nI j) = _
          unfold b_X7_wordFrom_26
          simp only [li_0, li_1, li_2, li_3, li_4, li_5, li_6, li_7, li_8, li_9, li_10, li_11, li_12, li_13, li_14, li_15, li_16, li_17, li_18, li_19, li_20, li_30, li_31, li_32, li_33, li_40, li_41, li_42, li_43, li_45, li_48, li_56, li_57, li_59, li_60, li_61, li_64, li_91, li_97, li_99, li_100, li_122, li_150, li_160, li_200, li_201, li_255, li_300, li_303, li_304, li_305, li_306, li_312, li_400, li_500, li_999, li_1003, li_3099, li_99999, li_100000, li_1000000, li_65, li_23, li_neg]
          rw [ic_le_t y (by omega), h88 1 (by omega)]
          rfl
      · refine Or.inr ⟨.inl (nI (v + 1)), ?_, Or.inr ⟨b1, rfl⟩⟩
        show b_X7_wordFrom_26 m (nI q) (nI e) (nI v) (nI 0) (nI j) = _
        unfold b_X7_wordFrom_26
        rw [h88 0 (by omega)]
        rw [li_0, if_pos rfl, if_pos rfl]
        split <;> rfl)
    refine ⟨r, ?_, g2⟩
    unfold b_X7_wordFrom_21
    rw [lp_X7_wordFrom_26]
    exact g1
  have hst : b_X7_wordFrom_2 m (nI q) (nI e) (nI v) = if 8 < e - q then b_X7_wordFrom_21 m (nI q) (nI e) (nI v) (nI 0) else b_X7_wordFrom_21 m (nI q) (nI e) (nI v) (nI 1) := by
    unfold b_X7_wordFrom_2
    simp only [li_0, li_1, li_2, li_3, li_4, li_5, li_6, li_7, li_8, li_9, li_10, li_11, li_12, li_13, li_14, li_15, li_16, li_17, li_18, li_19, li_20, li_30, li_31, li_32, li_33, li_40, li_41, li_42, li_43, li_45, li_48, li_56, li_57, li_59, li_60, li_61, li_64, li_91, li_97, li_99, li_100, li_122, li_150, li_160, li_200, li_201, li_255, li_300, li_303, li_304, li_305, li_306, li_312, li_400, li_500, li_999, li_1003, li_3099, li_99999, li_100000, li_1000000, li_65, li_23, li_neg]
    rw [ic_le_f hv (by omega), pu_sub (by omega)]
    by_cases z : 8 < e - q
    · rw [ic_lt_t z (by omega), if_pos z]
    · rw [ic_lt_f (by omega) (by omega), if_neg z]
  rw [hst]
  by_cases z : 8 < e - q
  · rw [if_pos z]
    obtain ⟨r, h1, ⟨h2, rfl⟩ | ⟨h2, rfl⟩⟩ := main 0 (Or.inr ⟨rfl, z⟩)
    · exact Or.inl ⟨h2, h1⟩
    · exact Or.inr ⟨h2, h1⟩
  · rw [if_neg z]
    obtain ⟨r, h1, ⟨h2, rfl⟩ | ⟨h2, rfl⟩⟩ := main 1 (Or.inl ⟨rfl, by omega⟩)
    · exact Or.inl ⟨h2, h1⟩
    · exact Or.inr ⟨h2, h1⟩
theorem rwords {m : qaM} {B : Nat → Nat} {L q e : Nat} (t : TPR m B L) (h52 : ∀ k : Nat, k < 96 → m 52 k = nI (wtb.getD k 0)) (hq : q < e) (he : e ≤ L) (hl : ∀ i : Nat, q ≤ i → i < e → 97 ≤ B i ∧ B i ≤ 122) :
    ∃ v : Nat, f_X7_wordFrom m (nI q) (nI e) = some (nI v) ∧ ((v < 12 ∧ MtW B q e (rhW v)) ∨ (v = 12 ∧ ∀ i : Nat, i < 12 → ¬ MtW B q e (rhW i))) := by
  obtain ⟨r, g1, v, rfl, g3⟩ := lp_at (f := fun s : Int32 => b_X7_wordFrom_2 m (nI q) (nI e) s) (fun j s => s = nI j ∧ j ≤ 12 ∧ ∀ i : Nat, i < j → ¬ MtW B q e (rhW i)) (fun r => ∃ v : Nat, r = nI v ∧ ((v < 12 ∧ MtW B q e (rhW v)) ∨ (v = 12 ∧ ∀ i : Nat, i < 12 → ¬ MtW B q e (rhW i)))) 12 (s := nI 0) ⟨rfl, Nat.zero_le _, fun i hi => absurd hi (Nat.not_lt_zero _)⟩ (by omega) (by
    rintro j s hj ⟨rfl, a1, a2⟩
    rcases Nat.lt_or_ge j 12 with y | y
    · rcases rword1 t h52 y hq he hl with ⟨b1, b2⟩ | ⟨b1, b2⟩
      · exact Or.inr ⟨nI j, b2, j, rfl, Or.inl ⟨y, b1⟩⟩
      · refine Or.inl ⟨nI (j + 1), b2, y, rfl, by omega, fun i hi => ?_⟩
        by_cases u : i = j
        · rw [u]
          exact b1
        · exact a2 i (by omega)
    · refine Or.inr ⟨nI 12, ?_, 12, rfl, Or.inr ⟨rfl, fun i hi => a2 i (by omega)⟩⟩
      show b_X7_wordFrom_2 m (nI q) (nI e) (nI j) = _
      unfold b_X7_wordFrom_2
      simp only [li_0, li_1, li_2, li_3, li_4, li_5, li_6, li_7, li_8, li_9, li_10, li_11, li_12, li_13, li_14, li_15, li_16, li_17, li_18, li_19, li_20, li_30, li_31, li_32, li_33, li_40, li_41, li_42, li_43, li_45, li_48, li_56, li_57, li_59, li_60, li_61, li_64, li_91, li_97, li_99, li_100, li_122, li_150, li_160, li_200, li_201, li_255, li_300, li_303, li_304, li_305, li_306, li_312, li_400, li_500, li_999, li_1003, li_3099, li_99999, li_100000, li_1000000, li_65, li_23, li_neg]
      rw [ic_le_t y (by omega)]
      rfl)
  refine ⟨v, ?_, g3⟩
  unfold f_X7_wordFrom
  simp only [li_0, li_1, li_2, li_3, li_4, li_5, li_6, li_7, li_8, li_9, li_10, li_11, li_12, li_13, li_14, li_15, li_16, li_17, li_18, li_19, li_20, li_30, li_31, li_32, li_33, li_40, li_41, li_42, li_43, li_45, li_48, li_56, li_57, li_59, li_60, li_61, li_64, li_91, li_97, li_99, li_100, li_122, li_150, li_160, li_200, li_201, li_255, li_300, li_303, li_304, li_305, li_306, li_312, li_400, li_500, li_999, li_1003, li_3099, li_99999, li_100000, li_1000000, li_65, li_23, li_neg]
  rw [lp_X7_wordFrom_2]
  exact g1
def rK (k : Nat) : Int32 := if k = 0 then nI 0 else if k = 1 then nM 1 else if k = 2 then nI 1 else if k < 300 then nI k else if k < 303 then nI 3 else if k < 306 then nI (k - 299) else nI 2
def rVl (V k : Nat) (v : Int32) : Prop := (k = 2 → v = nI V) ∧ (300 ≤ k → k < 303 → v = nI (k - 300)) ∧ (306 ≤ k → v = nI (k - 306))
theorem rword {m : qaM} {B : Nat → Nat} {L q e V : Nat} (t : TPR m B L) (h52 : ∀ k : Nat, k < 96 → m 52 k = nI (wtb.getD k 0)) (hq : q < e) (he : e ≤ L) (hl : ∀ i : Nat, q ≤ i → i < e → 97 ≤ B i ∧ B i ≤ 122) (h26 : m 36 26 = nI e) (h27 : m 36 27 = nI q) :
    ∃ k m2, b_X7_goesNext_146 m = some m2 ∧ WKd B q e k ∧ r7F m m2 ∧ m2 36 26 = nI e ∧ m2 36 27 = nI q ∧ m2 36 28 = rK k ∧ rVl V k (m2 36 29) := by
  obtain ⟨v, v1, v2⟩ := rwords t h52 hq he hl
  have h195 : ∀ (v : Nat) (s : Int32), v ≤ 12 → ∃ m2, b_X7_goesNext_195 m (nI v) s = some m2 ∧ r7F m m2 ∧ m2 36 26 = nI e ∧ m2 36 27 = nI q ∧ m2 36 28 = s ∧ m2 36 29 = nI (if 3 ≤ v then v - 3 else v) := by
    intro v s hv
    refine ⟨qa_st (qa_st m 36 28 s) 36 29 (nI (if 3 ≤ v then v - 3 else v)), ?_, ((r7F.rf m).st (by omega)).st (by omega), ?_, ?_, ?_, ?_⟩
    · unfold b_X7_goesNext_195 b_X7_goesNext_211
      simp only [li_0, li_1, li_2, li_3, li_4, li_5, li_6, li_7, li_8, li_9, li_10, li_11, li_12, li_13, li_14, li_15, li_16, li_17, li_18, li_19, li_20, li_30, li_31, li_32, li_33, li_40, li_41, li_42, li_43, li_45, li_48, li_56, li_57, li_59, li_60, li_61, li_64, li_91, li_97, li_99, li_100, li_122, li_150, li_160, li_200, li_201, li_255, li_300, li_303, li_304, li_305, li_306, li_312, li_400, li_500, li_999, li_1003, li_3099, li_99999, li_100000, li_1000000, li_65, li_23, li_neg]
      by_cases z : 3 ≤ v
      · rw [pu_let, ic_le_t z (by omega), pu_sub z, pu_let, if_pos z]
      · rw [pu_let, ic_le_f (by omega) (by omega), pu_let, if_neg z]
    · rw [st_s, up_n (by omega), st_s, up_n (by omega), h26]
    · rw [st_s, up_n (by omega), st_s, up_n (by omega), h27]
    · rw [st_s, up_n (by omega), st_s, up_s]
    · rw [st_s, up_s]
  have hst : b_X7_goesNext_146 m = if 3 ≤ v then (if 9 ≤ v then (if v = 12 then b_X7_goesNext_195 m (nI v) (nM 1) else b_X7_goesNext_195 m (nI v) (nI (4 + v - 9))) else b_X7_goesNext_195 m (nI v) (nI 2)) else b_X7_goesNext_195 m (nI v) (nI 3) := by
    have hv : v ≤ 12 := by rcases v2 with z | z <;> omega
    unfold b_X7_goesNext_146
    simp only [li_0, li_1, li_2, li_3, li_4, li_5, li_6, li_7, li_8, li_9, li_10, li_11, li_12, li_13, li_14, li_15, li_16, li_17, li_18, li_19, li_20, li_30, li_31, li_32, li_33, li_40, li_41, li_42, li_43, li_45, li_48, li_56, li_57, li_59, li_60, li_61, li_64, li_91, li_97, li_99, li_100, li_122, li_150, li_160, li_200, li_201, li_255, li_300, li_303, li_304, li_305, li_306, li_312, li_400, li_500, li_999, li_1003, li_3099, li_99999, li_100000, li_1000000, li_65, li_23, li_neg]
    rw [h26, h27, v1, Option.bind_some]
    by_cases c1 : 3 ≤ v
    · rw [ic_le_t c1 (by omega), if_pos c1]
      by_cases c2 : 9 ≤ v
      · rw [ic_le_t c2 (by omega), if_pos c2]
        by_cases c3 : v = 12
        · rw [ic_eq_t c3, if_pos c3]
        · rw [ic_eq_f c3 (by omega) (by omega), if_neg c3, pu_add, pu_sub (by omega)]
      · rw [ic_le_f (by omega) (by omega), if_neg c2]
    · rw [ic_le_f (by omega) (by omega), if_neg c1]
  rw [hst]
  rcases v2 with ⟨w1, w2⟩ | ⟨w1, w2⟩
  · have hk : WKd B q e (300 + rhW v) := Or.inl ⟨rhW v, rhW_lt w1, w2, rfl⟩
    by_cases c1 : 3 ≤ v
    · rw [if_pos c1]
      by_cases c2 : 9 ≤ v
      · rw [if_pos c2, if_neg (by omega)]
        obtain ⟨m2, d1, d2, d3, d4, d5, d6⟩ := h195 v (nI (4 + v - 9)) (by omega)
        have hr : rhW v = v - 6 := by
          unfold rhW
          rw [if_neg (by omega), if_neg (by omega)]
        refine ⟨_, m2, d1, hk, d2, d3, d4, ?_, fun z => by omega, fun _ z => by omega, fun z => by omega⟩
        rw [d5, hr]
        unfold rK
        rw [if_neg (by omega), if_neg (by omega), if_neg (by omega), if_neg (by omega), if_neg (by omega), if_pos (by omega)]
        exact congrArg nI (by omega)
      · rw [if_neg c2]
        obtain ⟨m2, d1, d2, d3, d4, d5, d6⟩ := h195 v (nI 2) (by omega)
        have hr : rhW v = v + 3 := by
          unfold rhW
          rw [if_neg (by omega), if_pos (by omega)]
        refine ⟨_, m2, d1, hk, d2, d3, d4, ?_, fun z => by omega, fun _ z => by omega, fun z => ?_⟩
        · rw [d5, hr]
          unfold rK
          rw [if_neg (by omega), if_neg (by omega), if_neg (by omega), if_neg (by omega), if_neg (by omega), if_neg (by omega)]
        · rw [d6, if_pos c1, hr]
          exact congrArg nI (by omega)
    · rw [if_neg c1]
      obtain ⟨m2, d1, d2, d3, d4, d5, d6⟩ := h195 v (nI 3) (by omega)
      have hr : rhW v = v := by
        unfold rhW
        rw [if_pos (by omega)]
      refine ⟨_, m2, d1, hk, d2, d3, d4, ?_, fun z => by omega, fun _ _ => ?_, fun z => by omega⟩
      · rw [d5, hr]
        unfold rK
        rw [if_neg (by omega), if_neg (by omega), if_neg (by omega), if_neg (by omega), if_pos (by omega)]
      · rw [d6, if_neg c1, hr]
        exact congrArg nI (by omega)
  · have hk : WKd B q e 1 := Or.inr ⟨fun w hw => by
      have h1 : ∃ i : Nat, i < 12 ∧ rhW i = w := by
        unfold rhW
        by_cases c1 : w < 3
        · exact ⟨w, by omega, by rw [if_pos c1]⟩
        · by_cases c2 : w < 6
          · exact ⟨w + 6, by omega, by rw [if_neg (by omega), if_neg (by omega)]; omega⟩
          · exact ⟨w - 3, by omega, by rw [if_neg (by omega), if_pos (by omega)]; omega⟩
      obtain ⟨i, i1, i2⟩ := h1
      rw [← i2]
      exact w2 i i1, rfl⟩
    rw [if_pos (by omega), if_pos (by omega), if_pos w1]
    obtain ⟨m2, d1, d2, d3, d4, d5, d6⟩ := h195 v (nM 1) (by omega)
    exact ⟨_, m2, d1, hk, d2, d3, d4, d5, fun z => by omega, fun _ z => by omega, fun z => by omega⟩
