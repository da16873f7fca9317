/-! PURE: tokens: what stands on the tape, and how the class reads it -/
def TPb (m : qaM) (B : Nat → Nat) (L : Nat) : Prop := m 6 0 = nI L ∧ m 36 9 = nI L ∧ L ≤ 160 ∧ ∀ k : Nat, k < L → B k ≤ 255 ∧ m 7 k = nI (B k) ∧ m 42 k = nI (B k)
theorem TP.b {m : qaM} (h : TP m) : ∃ B L, TPb m B L := by
  obtain ⟨L, h1, h2, h3, h4⟩ := h
  have h5 : ∀ k : Nat, ∃ b : Nat, k < L → b ≤ 255 ∧ m 7 k = nI b ∧ m 42 k = nI b := by
    intro k
    by_cases q : k < L
    · obtain ⟨b, hb⟩ := h4 k q
      exact ⟨b, fun _ => hb⟩
    · exact ⟨0, fun z => absurd z q⟩
  exact ⟨fun k => (h5 k).choose, L, h2, h3, h1, fun k hk => (h5 k).choose_spec hk⟩
def skp (P : Nat → Bool) (B : Nat → Nat) (L : Nat) : Nat → Nat → Nat
  | 0, p => p
  | d + 1, p => if p < L ∧ P (B p) = true then skp P B L d (p + 1) else p
def skF (P : Nat → Bool) (B : Nat → Nat) (L p : Nat) : Nat := skp P B L (L - p) p
theorem skp_u {P : Nat → Bool} {B : Nat → Nat} {L : Nat} : ∀ (j d p : Nat), L - p ≤ d → (∀ i : Nat, i < j → p + i < L ∧ P (B (p + i)) = true) → (L ≤ p + j ∨ P (B (p + j)) = false) → skp P B L d p = p + j := by
  intro j
  induction j with
  | zero =>
    intro d p hd _ h
    cases d with
    | zero => rfl
    | succ d =>
      rw [skp, if_neg]
      · rfl
      · rintro ⟨a, b⟩
        rcases h with h | h
        · omega
        · rw [Nat.add_zero] at h
          rw [h] at b
          cases b
  | succ j ih =>
    intro d p hd h1 h2
    have h0 := h1 0 (by omega)
    rw [Nat.add_zero] at h0
    cases d with
    | zero => omega
    | succ d =>
      rw [skp, if_pos h0, ih d (p + 1) (by omega) (fun i hi => by
        have := h1 (i + 1) (by omega)
        rw [show p + 1 + i = p + (i + 1) by omega]
        exact this) (by rw [show p + 1 + j = p + (j + 1) by omega]; exact h2)]
      omega
theorem skF_u {P : Nat → Bool} {B : Nat → Nat} {L p j : Nat} (h1 : ∀ i : Nat, i < j → p + i < L ∧ P (B (p + i)) = true) (h2 : L ≤ p + j ∨ P (B (p + j)) = false) : skF P B L p = p + j := skp_u j _ p (Nat.le_refl _) h1 h2
/-- there is such a place -/
theorem skF_e (P : Nat → Bool) (B : Nat → Nat) (L : Nat) : ∀ (d p : Nat), L - p = d → ∃ j : Nat, (∀ i : Nat, i < j → p + i < L ∧ P (B (p + i)) = true) ∧ (L ≤ p + j ∨ P (B (p + j)) = false) := by
  intro d
  induction d with
  | zero => exact fun p hp => ⟨0, fun i hi => by omega, Or.inl (by omega)⟩
  | succ d ih =>
    intro p hp
    cases hb : P (B p) with
    | false => exact ⟨0, fun i hi => by omega, Or.inr hb⟩
    | true =>
      obtain ⟨j, h1, h2⟩ := ih (p + 1) (by omega)
      refine ⟨j + 1, fun i hi => ?_, ?_⟩
      · cases i with
        | zero => exact ⟨by omega, hb⟩
        | succ i =>
          have := h1 i (by omega)
          rw [show p + (i + 1) = p + 1 + i by omega]
          exact this
      · rw [show p + (j + 1) = p + 1 + j by omega]
        exact h2
theorem skF_ok (P : Nat → Bool) (B : Nat → Nat) (L p : Nat) : p ≤ skF P B L p ∧ (skF P B L p ≤ L ∨ skF P B L p = p) ∧ (∀ i : Nat, p ≤ i → i < skF P B L p → i < L ∧ P (B i) = true) ∧ (L ≤ skF P B L p ∨ P (B (skF P B L p)) = false) := by
  obtain ⟨j, h1, h2⟩ := skF_e P B L _ p rfl
  have h3 := skF_u h1 h2
  rw [h3]
  refine ⟨by omega, ?_, fun i hi1 hi2 => ?_, h2⟩
  · cases j with
    | zero => exact Or.inr rfl
    | succ j =>
      have := (h1 j (by omega)).1
      exact Or.inl (by omega)
  · have := h1 (i - p) (by omega)
    rw [show p + (i - p) = i by omega] at this
    exact this
def isBl (b : Nat) : Bool := decide (b = 32 ∨ b = 10)
def isLe (b : Nat) : Bool := decide (97 ≤ b ∧ b ≤ 122)
def isDi (b : Nat) : Bool := decide (48 ≤ b ∧ b ≤ 57)
def isSi (b : Nat) : Bool := decide (b = 40 ∨ b = 41 ∨ b = 59 ∨ b = 43 ∨ b = 45 ∨ b = 42 ∨ b = 60 ∨ b = 61)
/-- where a token begins, where it ends -/
def plK (B : Nat → Nat) (L p : Nat) : Nat := skF isBl B L p
def tkE (B : Nat → Nat) (L p : Nat) : Nat :=
  if L ≤ plK B L p then plK B L p else if isLe (B (plK B L p)) = true then skF isLe B L (plK B L p + 1) else if isDi (B (plK B L p)) = true then skF isDi B L (plK B L p + 1) else plK B L p + 1
def wdB : List (List Nat) := [[119, 101, 97, 114, 115], [121, 101, 108, 108, 111, 119, 115], [99, 111, 115, 116, 115], [111, 114], [97, 110, 100], [110, 111, 116], [119, 111, 114, 110], [108, 97, 105, 110], [109, 111, 114, 101], [116, 117, 114, 110, 101, 100], [119, 101, 101, 107], [119, 97, 110, 116, 101, 100]]
def wlF (w : Nat) : Nat := (wdB.getD w []).length
def wcF (w k : Nat) : Nat := (wdB.getD w []).getD k 0
theorem wl_q : ∀ w : Nat, w < 12 → qa_tl.getD w 0 = wlF w ∧ wlF w ≤ 7 ∧ 2 ≤ wlF w := by decide
theorem wc_q : ∀ w : Nat, w < 12 → ∀ k : Nat, k < wlF w → qa_ch w k = nI (wcF w k) ∧ 97 ≤ wcF w k ∧ wcF w k ≤ 122 := by decide +kernel
/-- a word stands there -/
def MtW (B : Nat → Nat) (q e w : Nat) : Prop := wlF w = e - q ∧ ∀ k : Nat, k < wlF w → wcF w k = B (q + k)
def nvF (B : Nat → Nat) (q : Nat) : Nat → Nat
  | 0 => 0
  | j + 1 => nvF B q j * 10 + (B (q + j) - 48)
theorem nvF_s (B : Nat → Nat) (q j : Nat) : nvF B q (j + 1) = nvF B q j * 10 + (B (q + j) - 48) := rfl
/-- what a token is: 0 the end, 1 wrong, 2 a number, a sign its byte, a word 300 and its number -/
def tkP (B : Nat → Nat) (L p k : Nat) : Prop :=
  (L ≤ plK B L p ∧ k = 0) ∨ (plK B L p < L ∧ isLe (B (plK B L p)) = true ∧ ((∃ w, w < 12 ∧ MtW B (plK B L p) (tkE B L p) w ∧ k = 300 + w) ∨ ((∀ w : Nat, w < 12 → ¬ MtW B (plK B L p) (tkE B L p) w) ∧ k = 1)))
  ∨ (plK B L p < L ∧ isLe (B (plK B L p)) = false ∧ isDi (B (plK B L p)) = true ∧ k = if tkE B L p - plK B L p ≤ 4 then 2 else 1)
  ∨ (plK B L p < L ∧ isLe (B (plK B L p)) = false ∧ isDi (B (plK B L p)) = false ∧ k = if isSi (B (plK B L p)) = true then B (plK B L p) else 1)
theorem MtW_u {B : Nat → Nat} {q e w w2 : Nat} (h1 : w < 12) (h2 : w2 < 12) (a : MtW B q e w) (b : MtW B q e w2) : w = w2 := by
  have hall : ∀ x : Nat, x < 12 → ∀ y : Nat, y < 12 → (wlF x = wlF y ∧ ∀ k : Nat, k < wlF x → wcF x k = wcF y k) → x = y := by decide +kernel
  refine hall w h1 w2 h2 ⟨a.1.trans b.1.symm, fun k hk => ?_⟩
  rw [a.2 k hk, b.2 k (by rw [b.1, ← a.1]; exact hk)]
theorem tkP_ex (B : Nat → Nat) (L p : Nat) : ∃ k, tkP B L p k := by
  unfold tkP
  rcases Nat.lt_or_ge (plK B L p) L with q | q
  · cases h1 : isLe (B (plK B L p)) with
    | true =>
      by_cases z : ∃ w, w < 12 ∧ MtW B (plK B L p) (tkE B L p) w
      · obtain ⟨w, hw, hm⟩ := z
        exact ⟨300 + w, Or.inr (Or.inl ⟨q, rfl, Or.inl ⟨w, hw, hm, rfl⟩⟩)⟩
      · exact ⟨1, Or.inr (Or.inl ⟨q, rfl, Or.inr ⟨fun w hw hm => z ⟨w, hw, hm⟩, rfl⟩⟩)⟩
    | false =>
      cases h2 : isDi (B (plK B L p)) with
      | true => exact ⟨_, Or.inr (Or.inr (Or.inl ⟨q, rfl, rfl, rfl⟩))⟩
      | false => exact ⟨_, Or.inr (Or.inr (Or.inr ⟨q, rfl, rfl, rfl⟩))⟩
  · exact ⟨0, Or.inl ⟨q, rfl⟩⟩
noncomputable def tknd (B : Nat → Nat) (L p : Nat) : Nat := (tkP_ex B L p).choose
theorem tknd_ok (B : Nat → Nat) (L p : Nat) : tkP B L p (tknd B L p) := (tkP_ex B L p).choose_spec
theorem tkP_u {B : Nat → Nat} {L p k k2 : Nat} (a : tkP B L p k) (b : tkP B L p k2) : k = k2 := by
  unfold tkP at a b
  rcases a with ⟨a1, a2⟩ | ⟨a1, a2, a3⟩ | ⟨a1, a2, a3, a4⟩ | ⟨a1, a2, a3, a4⟩ <;> rcases b with ⟨b1, b2⟩ | ⟨b1, b2, b3⟩ | ⟨b1, b2, b3, b4⟩ | ⟨b1, b2, b3, b4⟩
  all_goals first
    | omega
    | (rw [a2] at b2; exact absurd b2 (by decide))
    | (rw [a3] at b3; exact absurd b3 (by decide))
    | (rw [a4, b4])
    | skip
  rcases a3 with ⟨w, w1, w2, w3⟩ | ⟨w1, w3⟩ <;> rcases b3 with ⟨v, v1, v2, v3⟩ | ⟨v1, v3⟩
  · rw [w3, v3, MtW_u w1 v1 w2 v2]
  · exact absurd w2 (v1 w w1)
  · exact absurd v2 (w1 v v1)
  · rw [w3, v3]
/-- the value of a number -/
def tkV (B : Nat → Nat) (L p : Nat) : Nat := nvF B (plK B L p) (tkE B L p - plK B L p)
theorem tkE_ok (B : Nat → Nat) (L p : Nat) (hp : p ≤ L) : p ≤ plK B L p ∧ plK B L p ≤ tkE B L p ∧ plK B L p ≤ L ∧ tkE B L p ≤ L ∧ (plK B L p < L → plK B L p < tkE B L p) := by
  have h := skF_ok isBl B L p
  have hq : p ≤ plK B L p ∧ plK B L p ≤ L := ⟨h.1, by
    rcases h.2.1 with z | z
    · exact z
    · show skF isBl B L p ≤ L
      rw [z]
      exact hp⟩
  unfold tkE
  by_cases q : L ≤ plK B L p
  · rw [if_pos q]
    omega
  · rw [if_neg q]
    have a1 := skF_ok isLe B L (plK B L p + 1)
    have a2 := skF_ok isDi B L (plK B L p + 1)
    split
    · rcases a1.2.1 with z | z <;> omega
    · split
      · rcases a2.2.1 with z | z <;> omega
      · omega
-- the class reads
theorem kbyte {m : qaM} {B : Nat → Nat} {L p : Nat} (t : TPb m B L) (hp : p < 2 ^ 31) : f_X4_byteAt m (nI p) = some (if p < L then nI (B p) else nM 1) := by
  have hL := t.2.2.1
  unfold f_X4_byteAt
  simp only [li_0, li_1, li_2, li_3, li_4, li_5, li_6, li_7, li_8, li_9, li_10, li_11, li_12, li_13, li_14, li_15, li_16, li_17, li_18, li_19, li_20, li_30, li_31, li_32, li_33, li_40, li_41, li_42, li_43, li_45, li_48, li_56, li_57, li_59, li_60, li_61, li_64, li_91, li_97, li_99, li_100, li_122, li_150, li_160, li_200, li_201, li_255, li_300, li_303, li_304, li_305, li_306, li_312, li_400, li_500, li_999, li_1003, li_3099, li_99999, li_100000, li_1000000, li_65, li_23, li_neg]
  rw [t.1, if_neg (nI_nlt (Nat.zero_le _) (by omega))]
  by_cases q : p < L
  · rw [ic_le_f q (by omega), ic_le_f (by omega) (by omega), pu_in (by omega) (by omega), pu_ck, pu_cl (by omega), if_pos q, (t.2.2.2 p q).2.1]
  · rw [ic_le_t (by omega) (by omega), if_neg q]
theorem TPb.F {m m2 : qaM} {B : Nat → Nat} {L : Nat} (t : TPb m B L) (h60 : m2 6 0 = m 6 0) (h36 : m2 36 9 = m 36 9) (h7 : m2 7 = m 7) (h42 : m2 42 = m 42) : TPb m2 B L := by
  unfold TPb
  rw [h60, h36, h7, h42]
  exact t
/-- what the class's reading changes -/
def k6F (m m2 : qaM) : Prop := qF [6] m m2 ∧ m2 6 0 = m 6 0
theorem k6F.rf (m : qaM) : k6F m m := ⟨qF.rf _ _, rfl⟩
theorem k6F.st {m x : qaM} (h : k6F m x) {k : Nat} {v : Int32} (hk : k ≠ 0) : k6F m (qa_st x 6 k v) := ⟨h.1.stl (by simp), by rw [st_s, up_n (Ne.symm hk)]; exact h.2⟩
theorem TPb.k6 {m x : qaM} {B : Nat → Nat} {L : Nat} (t : TPb m B L) (h : k6F m x) : TPb x B L := t.F h.2 (by rw [h.1 36 (by decide)]) (h.1 7 (by decide)) (h.1 42 (by decide))
theorem kletter {m : qaM} {b : Nat} (hb : b ≤ 255) : f_X4_isLetter m (nI b) = some (if isLe b = true then nI 1 else nI 0) := by
  unfold f_X4_isLetter isLe
  simp only [li_0, li_1, li_2, li_3, li_4, li_5, li_6, li_7, li_8, li_9, li_10, li_11, li_12, li_13, li_14, li_15, li_16, li_17, li_18, li_19, li_20, li_30, li_31, li_32, li_33, li_40, li_41, li_42, li_43, li_45, li_48, li_56, li_57, li_59, li_60, li_61, li_64, li_91, li_97, li_99, li_100, li_122, li_150, li_160, li_200, li_201, li_255, li_300, li_303, li_304, li_305, li_306, li_312, li_400, li_500, li_999, li_1003, li_3099, li_99999, li_100000, li_1000000, li_65, li_23, li_neg]
  by_cases q1 : b < 97
  · rw [if_pos (nI_lt q1 (by omega)), if_neg]
    simp
    omega
  · rw [if_neg (nI_nlt (by omega) (by omega))]
    by_cases q2 : 122 < b
    · rw [if_pos (nI_lt q2 (by omega)), if_neg]
      simp
      omega
    · rw [if_neg (nI_nlt (by omega) (by omega)), if_pos]
      simp
      omega
theorem kdigit {m : qaM} {b : Nat} (hb : b ≤ 255) : f_X4_isDigit m (nI b) = some (if isDi b = true then nI 1 else nI 0) := by
  unfold f_X4_isDigit isDi
  simp only [li_0, li_1, li_2, li_3, li_4, li_5, li_6, li_7, li_8, li_9, li_10, li_11, li_12, li_13, li_14, li_15, li_16, li_17, li_18, li_19, li_20, li_30, li_31, li_32, li_33, li_40, li_41, li_42, li_43, li_45, li_48, li_56, li_57, li_59, li_60, li_61, li_64, li_91, li_97, li_99, li_100, li_122, li_150, li_160, li_200, li_201, li_255, li_300, li_303, li_304, li_305, li_306, li_312, li_400, li_500, li_999, li_1003, li_3099, li_99999, li_100000, li_1000000, li_65, li_23, li_neg]
  by_cases q1 : b < 48
  · rw [if_pos (nI_lt q1 (by omega)), if_neg]
    simp
    omega
  · rw [if_neg (nI_nlt (by omega) (by omega))]
    by_cases q2 : 57 < b
    · rw [if_pos (nI_lt q2 (by omega)), if_neg]
      simp
      omega
    · rw [if_neg (nI_nlt (by omega) (by omega)), if_pos]
      simp
      omega
theorem kletterM {m : qaM} : f_X4_isLetter m (nM 1) = some (nI 0) := by
  unfold f_X4_isLetter
  simp only [li_0, li_1, li_2, li_3, li_4, li_5, li_6, li_7, li_8, li_9, li_10, li_11, li_12, li_13, li_14, li_15, li_16, li_17, li_18, li_19, li_20, li_30, li_31, li_32, li_33, li_40, li_41, li_42, li_43, li_45, li_48, li_56, li_57, li_59, li_60, li_61, li_64, li_91, li_97, li_99, li_100, li_122, li_150, li_160, li_200, li_201, li_255, li_300, li_303, li_304, li_305, li_306, li_312, li_400, li_500, li_999, li_1003, li_3099, li_99999, li_100000, li_1000000, li_65, li_23, li_neg]
  rw [ic_mlt (Or.inl (by omega)) (by omega) (by omega)]
theorem kdigitM {m : qaM} : f_X4_isDigit m (nM 1) = some (nI 0) := by
  unfold f_X4_isDigit
  simp only [li_0, li_1, li_2, li_3, li_4, li_5, li_6, li_7, li_8, li_9, li_10, li_11, li_12, li_13, li_14, li_15, li_16, li_17, li_18, li_19, li_20, li_30, li_31, li_32, li_33, li_40, li_41, li_42, li_43, li_45, li_48, li_56, li_57, li_59, li_60, li_61, li_64, li_91, li_97, li_99, li_100, li_122, li_150, li_160, li_200, li_201, li_255, li_300, li_303, li_304, li_305, li_306, li_312, li_400, li_500, li_999, li_1003, li_3099, li_99999, li_100000, li_1000000, li_65, li_23, li_neg]
  rw [ic_mlt (Or.inl (by omega)) (by omega) (by omega)]
theorem ksign {m : qaM} {b : Nat} (hb : b ≤ 255) : f_X4_isSign m (nI b) = some (if isSi b = true then nI 1 else nI 0) := by
  have hall : ∀ b : Nat, b < 256 → f_X4_isSign qa_m0 (nI b) = some (if isSi b = true then nI 1 else nI 0) := by decide +kernel
  exact hall b (by omega)
/-- the class's loop to the end of what is alike -/
theorem kskip {R : Type} {m : qaM} {B : Nat → Nat} {L q c : Nat} {P : Nat → Bool} {f : qaM × Int32 → Option ((qaM × Int32) ⊕ R)} {g : qaM → Option R} (t : TPb m B L) (hc : c ≠ 0) (hq : q ≤ 160) (h3 : m 6 c = nI q)
    (hs : ∀ (x : qaM) (j p : Nat), j < 160 → p ≤ 400 → TPb x B L → x 6 c = nI p → p < L → P (B p) = true → f (x, nI j) = some (.inl (qa_st x 6 c (nI (p + 1)), nI (j + 1))))
    (he : ∀ (x : qaM) (j p : Nat), j ≤ 160 → p ≤ 400 → TPb x B L → x 6 c = nI p → (j = 160 ∨ L ≤ p ∨ P (B p) = false) → f (x, nI j) = qa_inr (g x)) :
    ∃ m2, k6F m m2 ∧ m2 6 c = nI (skF P B L q) ∧ (∀ k : Nat, k ≠ c → m2 6 k = m 6 k) ∧ ∀ r, g m2 = some r → qa_lp f qa_F (m, nI 0) = some r := by
  have hL := t.2.2.1
  have main : ∀ (d j fuel : Nat) (x : qaM), j + d = 160 → d < fuel → k6F m x → x 6 c = nI (q + j) → (∀ k : Nat, k ≠ c → x 6 k = m 6 k) → (∀ i : Nat, i < j → q + i < L ∧ P (B (q + i)) = true) →
      ∃ m2, k6F m m2 ∧ m2 6 c = nI (skF P B L q) ∧ (∀ k : Nat, k ≠ c → m2 6 k = m 6 k) ∧ ∀ r, g m2 = some r → qa_lp f fuel (x, nI j) = some r := by
    intro d
    induction d with
    | zero =>
      intro j fuel x hj hd hk h3 ho hi
      obtain ⟨fu, rfl⟩ : ∃ fu, fuel = fu + 1 := ⟨fuel - 1, by omega⟩
      have := hi 159 (by omega)
      refine ⟨x, hk, ?_, ho, fun r hr => ?_⟩
      · rw [h3, skF_u hi (Or.inl (by omega))]
      · rw [qa_lp, he x j (q + j) (by omega) (by omega) (t.k6 hk) h3 (Or.inl (by omega)), hr]
        rfl
    | succ d ih =>
      intro j fuel x hj hd hk h3 ho hi
      obtain ⟨fu, rfl⟩ : ∃ fu, fuel = fu + 1 := ⟨fuel - 1, by omega⟩
      by_cases w : q + j < L ∧ P (B (q + j)) = true
      · obtain ⟨m2, a1, a2, a3, a4⟩ := ih (j + 1) fu (qa_st x 6 c (nI (q + j + 1))) (by omega) (by omega) (hk.st hc) (by rw [st_s, up_s]; rfl) (fun k hk2 => by rw [st_s, up_n hk2]; exact ho k hk2) (fun i hi2 => by
          by_cases z : i = j
          · rw [z]
            exact w
          · exact hi i (by omega))
        refine ⟨m2, a1, a2, a3, fun r hr => ?_⟩
        rw [qa_lp, hs x j (q + j) (by omega) (by omega) (t.k6 hk) h3 w.1 w.2]
        exact a4 r hr
      · have w2 : L ≤ q + j ∨ P (B (q + j)) = false := by
          by_cases z : q + j < L
          · right
            cases hb : P (B (q + j)) with
            | false => rfl
            | true => exact absurd ⟨z, hb⟩ w
          · left
            omega
        refine ⟨x, hk, ?_, ho, fun r hr => ?_⟩
        · rw [h3, skF_u hi w2]
        · rw [qa_lp, he x j (q + j) (by omega) (by omega) (t.k6 hk) h3 (Or.inr w2), hr]
          rfl
  exact main 160 0 qa_F m (by omega) (by unfold qa_F; omega) (k6F.rf m) h3 (fun _ _ => rfl) (fun i hi => by omega)
