/-! PURE: what stands between the two from call to call -/
def IH (m : qaM) (K : HS) : Prop := (∀ i k : Nat, i < K.n → k < 6 → (k = 4 → K.A i 7 = 0) → m 45 (6 * i + k) = nI (K.A i (k + 2))) ∧ (∀ j : Nat, j < K.P.length → m 46 j = nI (K.P.getD j 0)) ∧ (∀ k : Nat, k < 4 → m 47 k = nI (K.R k))
  ∧ m 36 15 = nI K.n ∧ m 36 16 = nI K.P.length ∧ m 36 17 = nI K.wk ∧ m 36 18 = nI K.lw
/-- the image -/
def KK (m : qaM) (H : HS) (N : Nat) : Prop := (m 0 7 = nI 0 ∧ m 36 14 = nI 0) ∨ (m 0 7 = nI 1 ∧ m 36 14 = nI 1 ∧ ∃ K, CH m 14 K ∧ IH m K ∧ HV K ∧ K.lw < N ∧ K.wk ≤ 999 ∧ K.n ≤ H.n ∧ ∀ i : Nat, i < K.n → K.A i 0 = H.A i 0 ∧ K.A i 1 = H.A i 1)
-- what a text is: steps behind one another, by numbers: 100000 and more a number, 0 .. 5 a name, 11 or, 12 and, 13 not, 14 <, 15 =, 16 +, 17 -, 18 *, 19 the - ahead of one
def stC (c : Nat) : Prop := (100000 ≤ c ∧ c ≤ 109999) ∨ c < 6 ∨ (11 ≤ c ∧ c ≤ 19)
/-- a step as the class has it -/
def en6 (c : Nat) : Int32 := if 100000 ≤ c then nI (c - 100000) else if c < 11 then nM (306 + c) else if c = 11 then nM 303 else if c = 12 then nM 304 else if c = 13 then nM 305 else if c = 14 then nM 60 else if c = 15 then nM 61 else if c = 16 then nM 43 else if c = 17 then nM 45 else if c = 18 then nM 42 else nM 200
def htS (c h : Nat) : Option Nat := if 100000 ≤ c ∨ c < 11 then some (h + 1) else if c = 13 ∨ c = 19 then (if 1 ≤ h then some h else none) else (if 2 ≤ h then some (h - 1) else none)
def htL : List Nat → Nat → Option Nat
  | [], h => some h
  | c :: w, h => Option.bind (htS c h) (htL w)
def opV (c : Nat) (a b : Int32) : Int32 :=
  if c = 11 then (if a = nI 0 then (if b = nI 0 then nI 0 else nI 1) else nI 1) else if c = 12 then (if a = nI 0 then nI 0 else if b = nI 0 then nI 0 else nI 1)
  else if c = 14 then (if b ≤ a then nI 0 else nI 1) else if c = 15 then (if a = b then nI 1 else nI 0) else if c = 16 then a + b else if c = 17 then a - b else a * b
def evS (f : Nat → Int32) (c : Nat) (X : Nat × (Nat → Int32)) : Nat × (Nat → Int32) :=
  if 100000 ≤ c then (X.1 + 1, upd X.2 X.1 (nI (c - 100000))) else if c < 11 then (X.1 + 1, upd X.2 X.1 (f c))
  else if c = 13 then (X.1, upd X.2 (X.1 - 1) (if X.2 (X.1 - 1) = nI 0 then nI 1 else nI 0)) else if c = 19 then (X.1, upd X.2 (X.1 - 1) (-(X.2 (X.1 - 1))))
  else (X.1 - 1, upd X.2 (X.1 - 2) (opV c (X.2 (X.1 - 2)) (X.2 (X.1 - 1))))
def evL (f : Nat → Int32) : List Nat → Nat × (Nat → Int32) → Nat × (Nat → Int32)
  | [], X => X
  | c :: w, X => evL f w (evS f c X)
def clN (v : Int32) : Nat := if v < nI 0 then 0 else if nI 99 < v then 99 else v.toNatClampNeg
/-- what a text's part comes to -/
def vlL (f : Nat → Int32) (w : List Nat) : Nat := clN ((evL f w (0, fun _ => nI 0)).2 0)
def eT (T : Nat → List Nat) : Nat → Nat
  | 0 => 0
  | p + 1 => eT T p + (T p).length
/-- a text's parts, in the class's cells and in the reference's -/
def TXA (m : qaM) (l : Nat) (T : Nat → List Nat) : Prop := eT T 3 ≤ 160 ∧ (∀ p k : Nat, p < 3 → k < (T p).length → stC ((T p).getD k 0) ∧ m 2 (160 * l + (eT T p + k)) = en6 ((T p).getD k 0) ∧ m 43 (200 * l + (eT T p + k)) = nI ((T p).getD k 0))
  ∧ (∀ p : Nat, p < 3 → m 3 (3 * l + p) = nI (eT T (p + 1))) ∧ (∀ p : Nat, p < 4 → m 44 (4 * l + p) = nI (eT T p)) ∧ (∀ p : Nat, p < 3 → htL (T p) 0 = some 1)
def wtb : List Nat := [119, 101, 97, 114, 115, 32, 32, 32, 121, 101, 108, 108, 111, 119, 115, 32, 99, 111, 115, 116, 115, 32, 32, 32, 119, 111, 114, 110, 32, 32, 32, 32, 108, 97, 105, 110, 32, 32, 32, 32, 109, 111, 114, 101, 32, 32, 32, 32, 116, 117, 114, 110, 101, 100, 32, 32, 119, 101, 101, 107, 32, 32, 32, 32, 119, 97, 110, 116, 101, 100, 32, 32, 111, 114, 32, 32, 32, 32, 32, 32, 97, 110, 100, 32, 32, 32, 32, 32, 110, 111, 116, 32, 32, 32, 32, 32]
def TXX (m : qaM) (N : Nat) (S : SF) : Prop := (∀ k : Nat, k < 96 → m 52 k = nI (wtb.getD k 0)) ∧ ∃ T : Nat → Nat → List Nat, ∀ l : Nat, l < N → TXA m l (T l) ∧ ∀ (p : Nat) (f : Nat → Int32), p < 3 → S l p f = vlL f (T l p)
theorem TXX.F {m m2 : qaM} {N : Nat} {S : SF} {l : List Nat} (h : TXX m N S) (hf : qF l m m2) (h2 : 2 ∉ l) (h3 : 3 ∉ l) (h43 : 43 ∉ l) (h44 : 44 ∉ l) (h52 : 52 ∉ l) : TXX m2 N S := by
  unfold TXX TXA
  rw [hf _ h2, hf _ h3, hf _ h43, hf _ h44, hf _ h52]
  exact h
/-- the texts and the tape -/
def TT (m : qaM) (N : Nat) (S : SF) : Prop := m 1 0 = nI N ∧ m 36 12 = nI N ∧ (1 ≤ N ∧ TXX m N S) ∧ N ≤ 6 ∧ TXc m N S ∧ TXr m N S ∧ SV S
def TP (m : qaM) : Prop := ∃ L : Nat, L ≤ 160 ∧ m 6 0 = nI L ∧ m 36 9 = nI L ∧ ∀ k : Nat, k < L → ∃ b : Nat, b ≤ 255 ∧ m 7 k = nI b ∧ m 42 k = nI b
/-- the sheets -/
def SH (m : qaM) : Prop := (∀ s : Nat, s < 4 → (m 33 s = nM 1 ∨ ∃ t : Nat, t < 3 ∧ m 33 s = nI t) ∧ m 48 s = m 33 s ∧ (∃ z : Nat, z ≤ 40 ∧ m 34 s = nI z ∧ m 49 s = nI z)) ∧ ∀ k : Nat, k < 160 → m 50 k = m 35 k
/-- the tally of the house that lives -/
def NT (m : qaM) (H : HS) : Prop := ∃ tf ou fi li : Nat, CT m 8 tf ou fi li ∧ fi ≤ li ∧ li ≤ H.wk
theorem NT.F {m m2 : qaM} {H H2 : HS} (h : NT m H) (e : m2 8 = m 8) (hw : H2.wk = H.wk) : NT m2 H2 := by
  unfold NT CT
  rw [e, hw]
  exact h
def RelD (m : qaM) (H : HS) (N : Nat) (S : SF) : Prop := CH m 8 H ∧ MH m H ∧ HV H ∧ H.lw < N ∧ H.wk ≤ 999 ∧ TT m N S ∧ TP m ∧ KK m H N ∧ SH m ∧ NT m H
def Rel (m : qaM) : Prop := ∃ H N S, RelD m H N S
theorem TT.F {m m2 : qaM} {N : Nat} {S : SF} {l k : List Nat} (h : TT m N S) (hf : qF l m m2) (h1 : 1 ∉ l) (h2 : 2 ∉ l) (h3 : 3 ∉ l) (h43 : 43 ∉ l) (h44 : 44 ∉ l) (h52 : 52 ∉ l) (ho : o36l k m m2) (k12 : 12 ∉ k) : TT m2 N S :=
  ⟨by rw [hf _ h1]; exact h.1, by rw [ho _ k12]; exact h.2.1, ⟨h.2.2.1.1, h.2.2.1.2.F hf h2 h3 h43 h44 h52⟩, h.2.2.2.1, h.2.2.2.2.1.F hf h1 h2 h3, h.2.2.2.2.2.1.F hf h43 h44, h.2.2.2.2.2.2⟩
theorem TP.F {m m2 : qaM} {l k : List Nat} (h : TP m) (hf : qF l m m2) (h6 : 6 ∉ l) (h7 : 7 ∉ l) (h42 : 42 ∉ l) (ho : o36l k m m2) (k9 : 9 ∉ k) : TP m2 := by
  unfold TP
  rw [hf _ h6, hf _ h7, hf _ h42, ho _ k9]
  exact h
theorem SH.F {m m2 : qaM} {l : List Nat} (h : SH m) (hf : qF l m m2) (h1 : 33 ∉ l) (h2 : 34 ∉ l) (h3 : 35 ∉ l) (h4 : 48 ∉ l) (h5 : 49 ∉ l) (h6 : 50 ∉ l) : SH m2 := by
  unfold SH
  rw [hf _ h1, hf _ h2, hf _ h3, hf _ h4, hf _ h5, hf _ h6]
  exact h
theorem KK.F {m m2 : qaM} {H H2 : HS} {N : Nat} {l k : List Nat} (h : KK m H N) (hf : qF l m m2) (h0 : 0 ∉ l) (h14 : 14 ∉ l) (h15 : 15 ∉ l) (h16 : 16 ∉ l) (h17 : 17 ∉ l) (h18 : 18 ∉ l) (h19 : 19 ∉ l) (h45 : 45 ∉ l) (h46 : 46 ∉ l) (h47 : 47 ∉ l)
    (ho : o36l k m m2) (k14 : 14 ∉ k) (k15 : 15 ∉ k) (k16 : 16 ∉ k) (k17 : 17 ∉ k) (k18 : 18 ∉ k) (hn : H.n ≤ H2.n) (hk : ∀ i : Nat, i < H.n → H2.A i 0 = H.A i 0 ∧ H2.A i 1 = H.A i 1) : KK m2 H2 N := by
  unfold KK
  rw [hf _ h0, ho _ k14]
  rcases h with h | ⟨a, b, K, c, d, e, f, g, i, j⟩
  · exact Or.inl h
  · refine Or.inr ⟨a, b, K, c.F hf h14 h15 h16 h17 h18 h19, ?_, e, f, g, by omega, fun x hx => ?_⟩
    · unfold IH
      rw [hf _ h45, hf _ h46, hf _ h47, ho _ k15, ho _ k16, ho _ k17, ho _ k18]
      exact d
    · have h1 := hk x (by omega)
      have h2 := j x hx
      rw [h1.1, h1.2]
      exact h2
/-- what only thinks leaves all as it was: the class thinks, then the reference -/
theorem Rel.think {m m1 m2 : qaM} {H : HS} {N : Nat} {S : SF} (h : RelD m H N S) (f1 : qF [4, 5, 20, 21, 22, 23, 24, 25, 26, 27, 28, 29, 30, 31] m m1) (f2 : qF [36, 37, 38, 39, 40, 41, 54, 55, 56, 57, 58, 59] m1 m2) (o2 : o36l [37, 38, 39, 43, 44, 46] m1 m2) (c2 : MH m2 H) : Rel m2 := by
  obtain ⟨a, b, c, d, e, t, p, k, s, nt⟩ := h
  have f : qF [4, 5, 20, 21, 22, 23, 24, 25, 26, 27, 28, 29, 30, 31, 36, 37, 38, 39, 40, 41, 54, 55, 56, 57, 58, 59] m m2 := (f1.mo (by simp)).t2 f2 (by simp)
  have o : o36l [37, 38, 39, 43, 44, 46] m m2 := (o36l.q (k := []) f1 (by decide)).tr o2 (by simp) (fun _ z => z)
  exact ⟨H, N, S, a.F f (by decide) (by decide) (by decide) (by decide) (by decide) (by decide), c2, c, d, e, t.F f (by decide) (by decide) (by decide) (by decide) (by decide) (by decide) o (by decide), p.F f (by decide) (by decide) (by decide) o (by decide),
    k.F f (by decide) (by decide) (by decide) (by decide) (by decide) (by decide) (by decide) (by decide) (by decide) (by decide) o (by decide) (by decide) (by decide) (by decide) (by decide) (Nat.le_refl _) (fun _ _ => ⟨rfl, rfl⟩),
    s.F f (by decide) (by decide) (by decide) (by decide) (by decide) (by decide), nt.F (f 8 (by decide)) rfl⟩
-- whole numbers as they come
theorem anyI (x : Int32) : x < 0 ∨ ∃ j : Nat, j < 2 ^ 31 ∧ x = nI j := by
  by_cases h : x < 0
  · exact Or.inl h
  · exact Or.inr (nI_of h)
theorem r7in {m : qaM} {a b c : Nat} (ha : a < 2 ^ 31) (hb : b < 2 ^ 31) (hc : c < 2 ^ 31) : f_X7_in m (nI a) (nI b) (nI c) = some (if b ≤ a ∧ a ≤ c then nI 1 else nI 0) := by
  rcases Nat.lt_or_ge a b with q | q
  · have e : (if b ≤ a ∧ a ≤ c then nI 1 else nI 0) = nI 0 := if_neg (by omega)
    rw [e]
    unfold f_X7_in
    ((try simp only [li_0, li_1, li_2, li_3, li_4, li_5, li_6, li_7, li_8, li_9, li_10, li_11, li_12, li_13, li_14, li_15, li_16, li_17, li_18, li_19, li_20, li_30, li_31, li_32, li_33, li_40, li_41, li_42, li_43, li_45, li_48, li_56, li_57, li_59, li_60, li_61, li_64, li_91, li_97, li_99, li_100, li_122, li_150, li_160, li_200, li_201, li_255, li_300, li_303, li_304, li_305, li_306, li_312, li_400, li_500, li_999, li_1003, li_3099, li_99999, li_100000, li_neg]); simp (disch := omega) only [ic_le_f, ic_le_t, ic_lt_f, ic_lt_t, ic_eq_f, ic_eq_t, ic_im, ic_mi, ic_mm_t, ic_mm_f, ic_mlt, ic_mle, ic_ilem, ic_iltm, ic_mmle_t, ic_mmle_f, pu_add, pu_mul, pu_in, pu_ck, pu_let, pu_cl, pu_cpok, pu_inr, Option.bind_some, ite_true, ite_false])
  · rcases Nat.lt_or_ge c a with z | z
    · have e : (if b ≤ a ∧ a ≤ c then nI 1 else nI 0) = nI 0 := if_neg (by omega)
      rw [e]
      unfold f_X7_in
      ((try simp only [li_0, li_1, li_2, li_3, li_4, li_5, li_6, li_7, li_8, li_9, li_10, li_11, li_12, li_13, li_14, li_15, li_16, li_17, li_18, li_19, li_20, li_30, li_31, li_32, li_33, li_40, li_41, li_42, li_43, li_45, li_48, li_56, li_57, li_59, li_60, li_61, li_64, li_91, li_97, li_99, li_100, li_122, li_150, li_160, li_200, li_201, li_255, li_300, li_303, li_304, li_305, li_306, li_312, li_400, li_500, li_999, li_1003, li_3099, li_99999, li_100000, li_neg]); simp (disch := omega) only [ic_le_f, ic_le_t, ic_lt_f, ic_lt_t, ic_eq_f, ic_eq_t, ic_im, ic_mi, ic_mm_t, ic_mm_f, ic_mlt, ic_mle, ic_ilem, ic_iltm, ic_mmle_t, ic_mmle_f, pu_add, pu_mul, pu_in, pu_ck, pu_let, pu_cl, pu_cpok, pu_inr, Option.bind_some, ite_true, ite_false])
    · have e : (if b ≤ a ∧ a ≤ c then nI 1 else nI 0) = nI 1 := if_pos ⟨q, z⟩
      rw [e]
      unfold f_X7_in
      ((try simp only [li_0, li_1, li_2, li_3, li_4, li_5, li_6, li_7, li_8, li_9, li_10, li_11, li_12, li_13, li_14, li_15, li_16, li_17, li_18, li_19, li_20, li_30, li_31, li_32, li_33, li_40, li_41, li_42, li_43, li_45, li_48, li_56, li_57, li_59, li_60, li_61, li_64, li_91, li_97, li_99, li_100, li_122, li_150, li_160, li_200, li_201, li_255, li_300, li_303, li_304, li_305, li_306, li_312, li_400, li_500, li_999, li_1003, li_3099, li_99999, li_100000, li_neg]); simp (disch := omega) only [ic_le_f, ic_le_t, ic_lt_f, ic_lt_t, ic_eq_f, ic_eq_t, ic_im, ic_mi, ic_mm_t, ic_mm_f, ic_mlt, ic_mle, ic_ilem, ic_iltm, ic_mmle_t, ic_mmle_f, pu_add, pu_mul, pu_in, pu_ck, pu_let, pu_cl, pu_cpok, pu_inr, Option.bind_some, ite_true, ite_false])
theorem r7in_n {m : qaM} {x y : Int32} {b : Nat} (hx : x < 0) (hb : b < 2 ^ 31) : f_X7_in m x (nI b) y = some (nI 0) := by
  unfold f_X7_in
  rw [if_pos]
  · rfl
  · rw [Int32.lt_iff_toInt_lt] at hx ⊢
    have h0 : (0 : Int32).toInt = 0 := by decide
    rw [pu_t hb]
    omega
theorem r7in_p {m : qaM} {a n : Nat} (ha : a < 2 ^ 31) (hn : n < 2 ^ 31) : f_X7_in m (nI a) (nI 0) (plI n) = some (if a < n then nI 1 else nI 0) := by
  cases n with
  | zero =>
    rw [plI_0, if_neg (by omega)]
    unfold f_X7_in
    rw [if_neg (nI_nlt (by omega) ha), if_pos (by rw [Int32.lt_iff_toInt_lt, nM_t (by omega), pu_t ha]; omega)]
    rfl
  | succ n =>
    rw [plI_s, r7in ha (by omega) (by omega)]
    by_cases q : a < n + 1
    · rw [if_pos ⟨Nat.zero_le _, by omega⟩, if_pos q]
    · rw [if_neg (fun z => q (by omega)), if_neg q]
theorem qa_bl01 {c : Prop} {d : Decidable c} : qa_bl (@ite Int32 c d (nI 1) (nI 0)) = true := by
  by_cases q : c
  · rw [if_pos q]
    decide
  · rw [if_neg q]
    decide
theorem r7isLinen {m : qaM} {i : Nat} {H : HS} (c : MH m H) (h8 : H.n ≤ 8) (hi : i < 2 ^ 31) : f_X7_isLinen m (nI i) = some (if i < H.n then nI 1 else nI 0) := by
  unfold f_X7_isLinen
  rw [c.2.2.2.1]
  simp only [li_0, li_1, li_2, li_3, li_4, li_5, li_6, li_7, li_8, li_9, li_10, li_11, li_12, li_13, li_14, li_15, li_16, li_17, li_18, li_19, li_20, li_30, li_31, li_32, li_33, li_40, li_41, li_42, li_43, li_45, li_48, li_56, li_57, li_59, li_60, li_61, li_64, li_91, li_97, li_99, li_100, li_122, li_150, li_160, li_200, li_201, li_255, li_300, li_303, li_304, li_305, li_306, li_312, li_400, li_500, li_999, li_1003, li_3099, li_99999, li_100000, li_neg]
  rw [plI_m, r7in_p hi (by omega), Option.bind_some, qa_bl01, pu_ck]
theorem r7isLinen_n {m : qaM} {x : Int32} (hx : x < 0) : f_X7_isLinen m x = some (nI 0) := by
  unfold f_X7_isLinen
  simp only [li_0, li_1, li_2, li_3, li_4, li_5, li_6, li_7, li_8, li_9, li_10, li_11, li_12, li_13, li_14, li_15, li_16, li_17, li_18, li_19, li_20, li_30, li_31, li_32, li_33, li_40, li_41, li_42, li_43, li_45, li_48, li_56, li_57, li_59, li_60, li_61, li_64, li_91, li_97, li_99, li_100, li_122, li_150, li_160, li_200, li_201, li_255, li_300, li_303, li_304, li_305, li_306, li_312, li_400, li_500, li_999, li_1003, li_3099, li_99999, li_100000, li_neg]
  rw [r7in_n hx (by omega), Option.bind_some]
  rfl
theorem kisLinen {m : qaM} {i : Nat} {H : HS} (c : CH m 8 H) (hi : i < 2 ^ 31) : f_X6_isLinen m (nI i) = some (if i < H.n then nI 1 else nI 0) := by
  have h8 := c.1.2.1
  unfold f_X6_isLinen
  rw [c.1.1]
  by_cases q : i < H.n
  · rw [if_pos q]
    ((try simp only [li_0, li_1, li_2, li_3, li_4, li_5, li_6, li_7, li_8, li_9, li_10, li_11, li_12, li_13, li_14, li_15, li_16, li_17, li_18, li_19, li_20, li_30, li_31, li_32, li_33, li_40, li_41, li_42, li_43, li_45, li_48, li_56, li_57, li_59, li_60, li_61, li_64, li_91, li_97, li_99, li_100, li_122, li_150, li_160, li_200, li_201, li_255, li_300, li_303, li_304, li_305, li_306, li_312, li_400, li_500, li_999, li_1003, li_3099, li_99999, li_100000, li_neg]); simp (disch := omega) only [ic_le_f, ic_le_t, ic_lt_f, ic_lt_t, ic_eq_f, ic_eq_t, ic_im, ic_mi, ic_mm_t, ic_mm_f, ic_mlt, ic_mle, ic_ilem, ic_iltm, ic_mmle_t, ic_mmle_f, pu_add, pu_mul, pu_in, pu_ck, pu_let, pu_cl, pu_cpok, pu_inr, Option.bind_some, ite_true, ite_false])
  · rw [if_neg q]
    ((try simp only [li_0, li_1, li_2, li_3, li_4, li_5, li_6, li_7, li_8, li_9, li_10, li_11, li_12, li_13, li_14, li_15, li_16, li_17, li_18, li_19, li_20, li_30, li_31, li_32, li_33, li_40, li_41, li_42, li_43, li_45, li_48, li_56, li_57, li_59, li_60, li_61, li_64, li_91, li_97, li_99, li_100, li_122, li_150, li_160, li_200, li_201, li_255, li_300, li_303, li_304, li_305, li_306, li_312, li_400, li_500, li_999, li_1003, li_3099, li_99999, li_100000, li_neg]); simp (disch := omega) only [ic_le_f, ic_le_t, ic_lt_f, ic_lt_t, ic_eq_f, ic_eq_t, ic_im, ic_mi, ic_mm_t, ic_mm_f, ic_mlt, ic_mle, ic_ilem, ic_iltm, ic_mmle_t, ic_mmle_f, pu_add, pu_mul, pu_in, pu_ck, pu_let, pu_cl, pu_cpok, pu_inr, Option.bind_some, ite_true, ite_false])
theorem kisLinen_n {m : qaM} {x : Int32} (hx : x < 0) : f_X6_isLinen m x = some (nI 0) := by
  unfold f_X6_isLinen
  rw [if_pos hx]
  rfl
