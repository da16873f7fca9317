/-! PURE: the class's reading: its memory -/
def C6 (N : Nat) (m x : qaM) : Prop := qF [1, 2, 6] m x ∧ x 6 0 = m 6 0 ∧ (∀ k : Nat, k ≠ 5 → x 1 k = m 1 k) ∧ ∀ k : Nat, (k < 160 * N ∨ 160 * N + 160 ≤ k) → x 2 k = m 2 k
theorem C6.rf (N : Nat) (m : qaM) : C6 N m m := ⟨qF.rf _ _, rfl, fun _ _ => rfl, fun _ _ => rfl⟩
theorem C6.k6 {N : Nat} {m x y : qaM} (h : C6 N m x) (h2 : k6F x y) : C6 N m y := ⟨h.1.t2 h2.1 (by simp), h2.2.trans h.2.1, fun k hk => by rw [h2.1 1 (by decide)]; exact h.2.2.1 k hk, fun k hk => by rw [h2.1 2 (by decide)]; exact h.2.2.2 k hk⟩
theorem TPb.c6 {N : Nat} {m x : qaM} {B : Nat → Nat} {L : Nat} (t : TPb m B L) (h : C6 N m x) : TPb x B L := t.F h.2.1 (by rw [h.1 36 (by decide)]) (h.1 7 (by decide)) (h.1 42 (by decide))
def tkC (x : qaM) (B : Nat → Nat) (L p : Nat) : Prop := x 6 2 = nI (plK B L p) ∧ x 6 3 = nI (tkE B L p) ∧ x 6 4 = nI (tknd B L p) ∧ (tknd B L p = 2 → x 6 5 = nI (tkV B L p))
theorem tkC.cg {x y : qaM} {B : Nat → Nat} {L p : Nat} (h : tkC x B L p) (h2 : ∀ k : Nat, y 6 k = x 6 k) : tkC y B L p := by
  unfold tkC
  rw [h2, h2, h2, h2]
  exact h
def ouC (x : qaM) (N : Nat) (o : List Nat) : Prop := x 1 5 = nI o.length ∧ ∀ i : Nat, i < o.length → x 2 (160 * N + i) = en6 (o.getD i 0)
def SZ (x : qaM) : Prop := ∃ s : Nat, s ≤ 160 ∧ x 1 5 = nI s
theorem kgoC {N : Nat} {m x : qaM} {B : Nat → Nat} {L p : Nat} {o : List Nat} (t : TPb m B L) (c : C6 N m x) (k : tkC x B L p) (u : ouC x N o) (hp : p ≤ L) : ∃ y, f_X4_goesOn x = some y ∧ C6 N m y ∧ tkC y B L (tkE B L p) ∧ ouC y N o := by
  obtain ⟨e1, e2, e3, e4, e5⟩ := tkE_ok B L p hp
  obtain ⟨y, h1, h2, h3, h4, h5, h6⟩ := kgo (t.c6 c) e4 k.2.1
  refine ⟨y, h1, c.k6 h2, ⟨h3, h4, h5, h6⟩, ?_, ?_⟩
  · rw [h2.1 1 (by decide)]
    exact u.1
  · intro i hi
    rw [h2.1 2 (by decide)]
    exact u.2 i hi
theorem C6.add {N : Nat} {m x : qaM} (c : C6 N m x) {k : Nat} {v w : Int32} (hk : 160 * N ≤ k ∧ k < 160 * N + 160) : C6 N m (qa_st (qa_st x 2 k v) 1 5 w) := by
  refine ⟨(c.1.stl (by simp)).stl (by simp), ?_, ?_, ?_⟩
  · rw [st_n (by omega), st_n (by omega)]
    exact c.2.1
  · intro j hj
    rw [st_s, up_n hj, st_n (by omega)]
    exact c.2.2.1 j hj
  · intro j hj
    rw [st_n (by omega), st_s, up_n (by omega)]
    exact c.2.2.2 j hj
theorem kadds1 {N : Nat} {m x : qaM} {s : Nat} {v : Int32} (c : C6 N m x) (hm : m 1 0 = nI N) (hN : N < 6) (hs : x 1 5 = nI s) (hs2 : s < 160) : f_X5_adds x v = some (qa_st (qa_st x 2 (160 * N + s) v) 1 5 (nI (s + 1))) := by
  have h10 : x 1 0 = nI N := by rw [c.2.2.1 0 (by omega), hm]
  have h5 : (qa_st x 2 (160 * N + s) v) 1 5 = nI s := by rw [st_n (by omega), hs]
  unfold f_X5_adds
  simp only [li_0, li_1, li_2, li_3, li_4, li_5, li_6, li_7, li_8, li_9, li_10, li_11, li_12, li_13, li_14, li_15, li_16, li_17, li_18, li_19, li_20, li_30, li_31, li_32, li_33, li_40, li_41, li_42, li_43, li_45, li_48, li_56, li_57, li_59, li_60, li_61, li_64, li_91, li_97, li_99, li_100, li_122, li_150, li_160, li_200, li_201, li_255, li_300, li_303, li_304, li_305, li_306, li_312, li_400, li_500, li_999, li_1003, li_3099, li_99999, li_100000, li_1000000, li_65, li_23, li_neg]
  rw [h10, hs, if_neg (nI_nlt (Nat.zero_le _) (by omega)), ic_le_f (by omega) (by omega), if_neg (nI_nlt (Nat.zero_le _) (by omega)), ic_le_f (by omega) (by omega), pu_mul, pu_add, pu_in (by omega) (by omega), pu_ck, pu_cl (by omega), show N * 160 + s = 160 * N + s by omega, pu_let, h5, pu_add, pu_let]
theorem kaddsF {N : Nat} {m x : qaM} {v : Int32} (c : C6 N m x) (hm : m 1 0 = nI N) (hN : N < 6) (hs : SZ x) : ∃ x2, f_X5_adds x v = some x2 ∧ C6 N m x2 ∧ SZ x2 ∧ ∀ k : Nat, x2 6 k = x 6 k := by
  obtain ⟨s, s1, s2⟩ := hs
  rcases Nat.lt_or_ge s 160 with q | q
  · exact ⟨_, kadds1 c hm hN s2 q, c.add (by omega), ⟨s + 1, by omega, by rw [st_s, up_s]⟩, fun k => by rw [st_n (by omega), st_n (by omega)]⟩
  · refine ⟨x, ?_, c, ⟨s, s1, s2⟩, fun _ => rfl⟩
    have h10 : x 1 0 = nI N := by rw [c.2.2.1 0 (by omega), hm]
    unfold f_X5_adds
    simp only [li_0, li_1, li_2, li_3, li_4, li_5, li_6, li_7, li_8, li_9, li_10, li_11, li_12, li_13, li_14, li_15, li_16, li_17, li_18, li_19, li_20, li_30, li_31, li_32, li_33, li_40, li_41, li_42, li_43, li_45, li_48, li_56, li_57, li_59, li_60, li_61, li_64, li_91, li_97, li_99, li_100, li_122, li_150, li_160, li_200, li_201, li_255, li_300, li_303, li_304, li_305, li_306, li_312, li_400, li_500, li_999, li_1003, li_3099, li_99999, li_100000, li_1000000, li_65, li_23, li_neg]
    rw [h10, s2, if_neg (nI_nlt (Nat.zero_le _) (by omega)), ic_le_f (by omega) (by omega), if_neg (nI_nlt (Nat.zero_le _) (by omega)), ic_le_t (by omega) (by omega)]
theorem kadds {N : Nat} {m x : qaM} {o : List Nat} (v : Nat) (c : C6 N m x) (hm : m 1 0 = nI N) (hN : N < 6) (u : ouC x N o) (ho : o.length < 160) : ∃ x2, f_X5_adds x (en6 v) = some x2 ∧ C6 N m x2 ∧ ouC x2 N (o ++ [v]) ∧ ∀ k : Nat, x2 6 k = x 6 k := by
  refine ⟨_, kadds1 c hm hN u.1 ho, c.add (by omega), ⟨?_, ?_⟩, fun k => by rw [st_n (by omega), st_n (by omega)]⟩
  · rw [st_s, up_s, List.length_append]
    rfl
  · intro i hi
    rw [List.length_append] at hi
    have hi2 : i < o.length + 1 := hi
    rw [st_n (by omega), st_s]
    by_cases z : i = o.length
    · rw [z, up_s, getD_ap2]
    · rw [up_n (by omega), getD_ap (by omega)]
      exact u.2 i (by omega)
def levT (tag : Nat) : Nat := if tag = 0 then 1 else if tag = 1 then 2 else if tag = 2 then 3 else if tag = 3 then 5 else if tag = 4 then 6 else 7
/-- what a reading of this sort stops before -/
def exT (tag k : Nat) (τ q : List Nat) : Prop := (tag ≤ 4 → k ≠ 42) ∧ (tag ≤ 3 → k ≠ 43 ∧ k ≠ 45) ∧ (tag ≤ 2 → (k = 60 ∨ k = 61) → tp4 (unw 5 τ q).1 = true) ∧ (tag ≤ 1 → k ≠ 304) ∧ (tag ≤ 0 → k ≠ 303)
def preT (tag k a : Nat) (σ : List Nat) : Prop := (tag = 0 → trk 1 σ) ∧ (tag = 1 → trk 2 σ) ∧ (tag = 2 → trk 4 σ) ∧ (tag = 3 → trk 5 σ) ∧ (tag = 4 → trk 6 σ) ∧ (tag ≤ 2 → a = 1) ∧ (3 ≤ tag → ¬ (a = 1 ∧ k = 305))
def SucC (B : Nat → Nat) (L N tag p a : Nat) (σ o : List Nat) (j : Nat) (x2 : qaM) : Prop := ∃ p2 w τ q a2, p + j < p2 ∧ p2 ≤ L ∧ tkC x2 B L p2 ∧ ouC x2 N (o ++ w) ∧ w.length + p ≤ p2 ∧ (∀ c ∈ w, stC c) ∧ (∀ h : Nat, htL w h = some (h + 1)) ∧ Rch B L (p, 1, a, σ, o) (p2, 0, a2, τ, q) ∧ unw (levT tag) τ q = unw (levT tag) σ (o ++ w) ∧ exT tag (tknd B L p2) τ q
def FaiC (B : Nat → Nat) (L p a : Nat) (σ o : List Nat) (x2 : qaM) : Prop := SZ x2 ∧ ∃ d : Cf, d.1 ≤ L ∧ x2 6 2 = nI (plK B L d.1) ∧ Rch B L (p, 1, a, σ, o) d ∧ stpA B L d = none ∧ ¬ okA B L d
def RSc (m : qaM) (B : Nat → Nat) (L N tag p a : Nat) (σ o : List Nat) (R : Option (Int32 × qaM)) : Prop := ∃ b x2, R = some (nI b, x2) ∧ C6 N m x2 ∧ ((b = 1 ∧ SucC B L N tag p a σ o 0 x2) ∨ (b = 0 ∧ FaiC B L p a σ o x2))
def RDk (m : qaM) (B : Nat → Nat) (L N : Nat) (rec : Nat → qaM → Int32 → Option (Int32 × qaM)) (ok : Nat → Nat → Prop) : Prop := ∀ (tag p a : Nat) (σ o : List Nat) (x : qaM), tag ≤ 5 → ok tag (opN σ) → preT tag (tknd B L p) a σ → opN σ ≤ 5 → C6 N m x → tkC x B L p → ouC x N o → p ≤ L → o.length ≤ p → RSc m B L N tag p a σ o (rec tag x (nI (opN σ)))
