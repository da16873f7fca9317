/-! PURE: ints as numbers, loops, memory -/
theorem li_0 : (0 : Int32) = nI 0 := by decide
theorem li_1 : (1 : Int32) = nI 1 := by decide
theorem li_2 : (2 : Int32) = nI 2 := by decide
theorem li_3 : (3 : Int32) = nI 3 := by decide
theorem li_4 : (4 : Int32) = nI 4 := by decide
theorem li_5 : (5 : Int32) = nI 5 := by decide
theorem li_6 : (6 : Int32) = nI 6 := by decide
theorem li_7 : (7 : Int32) = nI 7 := by decide
theorem li_8 : (8 : Int32) = nI 8 := by decide
theorem li_9 : (9 : Int32) = nI 9 := by decide
theorem li_10 : (10 : Int32) = nI 10 := by decide
theorem li_11 : (11 : Int32) = nI 11 := by decide
theorem li_12 : (12 : Int32) = nI 12 := by decide
theorem li_13 : (13 : Int32) = nI 13 := by decide
theorem li_14 : (14 : Int32) = nI 14 := by decide
theorem li_15 : (15 : Int32) = nI 15 := by decide
theorem li_16 : (16 : Int32) = nI 16 := by decide
theorem li_17 : (17 : Int32) = nI 17 := by decide
theorem li_18 : (18 : Int32) = nI 18 := by decide
theorem li_19 : (19 : Int32) = nI 19 := by decide
theorem li_20 : (20 : Int32) = nI 20 := by decide
theorem li_30 : (30 : Int32) = nI 30 := by decide
theorem li_31 : (31 : Int32) = nI 31 := by decide
theorem li_32 : (32 : Int32) = nI 32 := by decide
theorem li_33 : (33 : Int32) = nI 33 := by decide
theorem li_40 : (40 : Int32) = nI 40 := by decide
theorem li_41 : (41 : Int32) = nI 41 := by decide
theorem li_42 : (42 : Int32) = nI 42 := by decide
theorem li_43 : (43 : Int32) = nI 43 := by decide
theorem li_45 : (45 : Int32) = nI 45 := by decide
theorem li_48 : (48 : Int32) = nI 48 := by decide
theorem li_56 : (56 : Int32) = nI 56 := by decide
theorem li_57 : (57 : Int32) = nI 57 := by decide
theorem li_59 : (59 : Int32) = nI 59 := by decide
theorem li_60 : (60 : Int32) = nI 60 := by decide
theorem li_61 : (61 : Int32) = nI 61 := by decide
theorem li_64 : (64 : Int32) = nI 64 := by decide
theorem li_91 : (91 : Int32) = nI 91 := by decide
theorem li_97 : (97 : Int32) = nI 97 := by decide
theorem li_99 : (99 : Int32) = nI 99 := by decide
theorem li_100 : (100 : Int32) = nI 100 := by decide
theorem li_122 : (122 : Int32) = nI 122 := by decide
theorem li_150 : (150 : Int32) = nI 150 := by decide
theorem li_160 : (160 : Int32) = nI 160 := by decide
theorem li_200 : (200 : Int32) = nI 200 := by decide
theorem li_201 : (201 : Int32) = nI 201 := by decide
theorem li_255 : (255 : Int32) = nI 255 := by decide
theorem li_300 : (300 : Int32) = nI 300 := by decide
theorem li_303 : (303 : Int32) = nI 303 := by decide
theorem li_304 : (304 : Int32) = nI 304 := by decide
theorem li_305 : (305 : Int32) = nI 305 := by decide
theorem li_306 : (306 : Int32) = nI 306 := by decide
theorem li_312 : (312 : Int32) = nI 312 := by decide
theorem li_400 : (400 : Int32) = nI 400 := by decide
theorem li_500 : (500 : Int32) = nI 500 := by decide
theorem li_999 : (999 : Int32) = nI 999 := by decide
theorem li_1003 : (1003 : Int32) = nI 1003 := by decide
theorem li_3099 : (3099 : Int32) = nI 3099 := by decide
theorem li_99999 : (99999 : Int32) = nI 99999 := by decide
theorem li_100000 : (100000 : Int32) = nI 100000 := by decide
theorem pu_t {n : Nat} (h : n < 2 ^ 31) : (nI n).toInt = (n : Int) := nI_toInt h
theorem pu_lt {a b : Nat} (ha : a < 2 ^ 31) (hb : b < 2 ^ 31) : (nI a < nI b) = (a < b) := propext (nI_ltI ha hb)
theorem pu_le {a b : Nat} (ha : a < 2 ^ 31) (hb : b < 2 ^ 31) : (nI a ≤ nI b) = (a ≤ b) := propext (nI_leI ha hb)
theorem pu_eq {a b : Nat} (ha : a < 2 ^ 31) (hb : b < 2 ^ 31) : (nI a = nI b) = (a = b) := propext (nI_eq ha hb)
theorem pu_add (a b : Nat) : nI a + nI b = nI (a + b) := nI_add a b
theorem pu_mul (a b : Nat) : nI a * nI b = nI (a * b) := pk_mul a b
theorem pu_sub {a b : Nat} (h : b ≤ a) : nI a - nI b = nI (a - b) := pk_sub h
theorem pu_cl {n : Nat} (h : n < 2 ^ 31) : (nI n).toNatClampNeg = n := nI_clamp h
theorem pu_in {n N : Nat} (h : n < N) (hN : n < 2 ^ 31) : qa_in (nI n) N = true := by
  unfold qa_in
  rw [pu_t hN, Bool.and_eq_true, decide_eq_true_eq, decide_eq_true_eq]
  omega
theorem pu_ck {α : Type} (k : Option α) : qa_ck true k = k := rfl
theorem pu_let {α β : Type} (e : α) (k : α → β) : qa_lt e k = k e := rfl
theorem pu_inr {α β : Type} (x : β) : qa_inr (α := α) (some x) = some (.inr x) := rfl
theorem pu_m1lt {n : Nat} (h : n < 2 ^ 31) : (-1 : Int32) < nI n := by
  rw [Int32.lt_iff_toInt_lt, pu_t h]
  have : (-1 : Int32).toInt = -1 := by decide
  omega
theorem pu_m1 {n : Nat} (h : n < 2 ^ 31) : ¬ nI n = (-1 : Int32) := by
  intro q
  have h1 := congrArg Int32.toInt q
  rw [pu_t h] at h1
  have : (-1 : Int32).toInt = -1 := by decide
  omega
theorem pu_cpok {sp dp n n0 n1 : Nat} (h0 : sp + n ≤ n0) (h1 : dp + n ≤ n1) (h2 : n0 < 2 ^ 30) (h3 : n1 < 2 ^ 30) : qa_cpok (nI sp) (nI dp) (nI n) n0 n1 = true := by
  unfold qa_cpok
  rw [pu_cl (by omega), pu_cl (by omega), pu_cl (by omega)]
  simp only [Bool.and_eq_true, decide_eq_true_eq]
  exact ⟨nI_pos (by omega), nI_pos (by omega), nI_pos (by omega), h0, h1⟩
theorem ic_le_f {a b : Nat} {α : Type} {d : Decidable (nI a ≤ nI b)} {x y : α} (h : b < a) (ha : a < 2 ^ 31) : @ite α (nI a ≤ nI b) d x y = y := if_neg (nI_ge h ha)
theorem ic_le_t {a b : Nat} {α : Type} {d : Decidable (nI a ≤ nI b)} {x y : α} (h : a ≤ b) (hb : b < 2 ^ 31) : @ite α (nI a ≤ nI b) d x y = x := if_pos (nI_le h hb)
theorem ic_lt_f {a b : Nat} {α : Type} {d : Decidable (nI a < nI b)} {x y : α} (h : b ≤ a) (ha : a < 2 ^ 31) : @ite α (nI a < nI b) d x y = y := if_neg (nI_nlt h ha)
theorem ic_lt_t {a b : Nat} {α : Type} {d : Decidable (nI a < nI b)} {x y : α} (h : a < b) (hb : b < 2 ^ 31) : @ite α (nI a < nI b) d x y = x := if_pos (nI_lt h hb)
theorem ic_eq_f {a b : Nat} {α : Type} {d : Decidable (nI a = nI b)} {x y : α} (h : a ≠ b) (ha : a < 2 ^ 31) (hb : b < 2 ^ 31) : @ite α (nI a = nI b) d x y = y := if_neg (fun q => h ((nI_eq ha hb).mp q))
theorem ic_eq_t {a b : Nat} {α : Type} {d : Decidable (nI a = nI b)} {x y : α} (h : a = b) : @ite α (nI a = nI b) d x y = x := if_pos (by rw [h])
/-- a number below 0 -/
def nM (n : Nat) : Int32 := -nI n
theorem li_neg (n : Nat) : -nI n = nM n := Int32.toInt_inj.mp rfl
theorem nM_t {n : Nat} (h : n < 2 ^ 31) : (nM n).toInt = -(n : Int) := sb_negT h
theorem nM_eqI {a b : Nat} (ha : a < 2 ^ 31) (hb : b < 2 ^ 31) (h : 0 < a ∨ 0 < b) : ¬ nM a = nI b := by
  intro q
  have h1 := congrArg Int32.toInt q
  rw [nM_t ha, pu_t hb] at h1
  omega
theorem nM_inj {a b : Nat} (ha : a < 2 ^ 31) (hb : b < 2 ^ 31) (h : nM a = nM b) : a = b := by
  have h1 := congrArg Int32.toInt h
  rw [nM_t ha, nM_t hb] at h1
  omega
theorem ic_im {a b : Nat} {α : Type} {d : Decidable (nI a = nM b)} {x y : α} (hb0 : 0 < b) (ha : a < 2 ^ 31) (hb : b < 2 ^ 31) : @ite α (nI a = nM b) d x y = y := if_neg (fun q => nM_eqI hb ha (Or.inl hb0) q.symm)
theorem ic_mi {a b : Nat} {α : Type} {d : Decidable (nM a = nI b)} {x y : α} (ha0 : 0 < a) (ha : a < 2 ^ 31) (hb : b < 2 ^ 31) : @ite α (nM a = nI b) d x y = y := if_neg (nM_eqI ha hb (Or.inl ha0))
theorem ic_mm_t {a b : Nat} {α : Type} {d : Decidable (nM a = nM b)} {x y : α} (h : a = b) : @ite α (nM a = nM b) d x y = x := if_pos (by rw [h])
theorem ic_mm_f {a b : Nat} {α : Type} {d : Decidable (nM a = nM b)} {x y : α} (h : a ≠ b) (ha : a < 2 ^ 31) (hb : b < 2 ^ 31) : @ite α (nM a = nM b) d x y = y := if_neg (fun q => h (nM_inj ha hb q))
theorem ic_mlt {a b : Nat} {α : Type} {d : Decidable (nM a < nI b)} {x y : α} (h : 0 < a ∨ 0 < b) (ha : a < 2 ^ 31) (hb : b < 2 ^ 31) : @ite α (nM a < nI b) d x y = x := if_pos (by rw [Int32.lt_iff_toInt_lt, nM_t ha, pu_t hb]; omega)
theorem ic_mle {a b : Nat} {α : Type} {d : Decidable (nM a ≤ nI b)} {x y : α} (ha : a < 2 ^ 31) (hb : b < 2 ^ 31) : @ite α (nM a ≤ nI b) d x y = x := if_pos (by rw [Int32.le_iff_toInt_le, nM_t ha, pu_t hb]; omega)
theorem ic_ilem {a b : Nat} {α : Type} {d : Decidable (nI a ≤ nM b)} {x y : α} (h : 0 < b ∨ 0 < a) (ha : a < 2 ^ 31) (hb : b < 2 ^ 31) : @ite α (nI a ≤ nM b) d x y = y := if_neg (by rw [Int32.le_iff_toInt_le, nM_t hb, pu_t ha]; omega)
theorem ic_iltm {a b : Nat} {α : Type} {d : Decidable (nI a < nM b)} {x y : α} (ha : a < 2 ^ 31) (hb : b < 2 ^ 31) : @ite α (nI a < nM b) d x y = y := if_neg (by rw [Int32.lt_iff_toInt_lt, nM_t hb, pu_t ha]; omega)
theorem ic_mmle_t {a b : Nat} {α : Type} {d : Decidable (nM a ≤ nM b)} {x y : α} (h : b ≤ a) (ha : a < 2 ^ 31) (hb : b < 2 ^ 31) : @ite α (nM a ≤ nM b) d x y = x := if_pos (by rw [Int32.le_iff_toInt_le, nM_t ha, nM_t hb]; omega)
theorem ic_mmle_f {a b : Nat} {α : Type} {d : Decidable (nM a ≤ nM b)} {x y : α} (h : a < b) (ha : a < 2 ^ 31) (hb : b < 2 ^ 31) : @ite α (nM a ≤ nM b) d x y = y := if_neg (by rw [Int32.le_iff_toInt_le, nM_t ha, nM_t hb]; omega)
theorem mm_le {a b : Nat} (ha : a < 2 ^ 31) (hb : b < 2 ^ 31) : nM a ≤ nM b ↔ b ≤ a := by
  rw [Int32.le_iff_toInt_le, nM_t ha, nM_t hb]
  omega
theorem ii_le {a b : Nat} (ha : a < 2 ^ 31) (hb : b < 2 ^ 31) : nI a ≤ nI b ↔ a ≤ b := nI_leI ha hb
-- memory
theorem pt_s (m : qaM) (i : Nat) (f : Nat → Int32) : qa_pt m i f i = f := if_pos rfl
theorem pt_n {m : qaM} {i j : Nat} {f : Nat → Int32} (h : j ≠ i) : qa_pt m i f j = m j := if_neg h
theorem st_s (m : qaM) (i k : Nat) (v : Int32) : qa_st m i k v i = upd (m i) k v := pt_s m i _
theorem st_n {m : qaM} {i j k : Nat} {v : Int32} (h : j ≠ i) : qa_st m i k v j = m j := pt_n h
theorem up_s (f : Nat → Int32) (k : Nat) (v : Int32) : upd f k v k = v := pk_us
theorem up_n {f : Nat → Int32} {k j : Nat} {v : Int32} (h : j ≠ k) : upd f k v j = f j := pk_un h
/-- nothing but these cells changed -/
def qF (l : List Nat) (m m2 : qaM) : Prop := ∀ c : Nat, c ∉ l → m2 c = m c
theorem qF.rf (l : List Nat) (m : qaM) : qF l m m := fun _ _ => rfl
theorem qF.tr {l1 l2 l : List Nat} {m m1 m2 : qaM} (h1 : qF l1 m m1) (h2 : qF l2 m1 m2) (ha : ∀ c ∈ l1, c ∈ l) (hb : ∀ c ∈ l2, c ∈ l) : qF l m m2 := fun c hc => (h2 c (fun h => hc (hb c h))).trans (h1 c (fun h => hc (ha c h)))
theorem qF.mo {l1 l : List Nat} {m m1 : qaM} (h1 : qF l1 m m1) (ha : ∀ c ∈ l1, c ∈ l) : qF l m m1 := fun c hc => h1 c (fun h => hc (ha c h))
theorem qF.pt (m : qaM) (i : Nat) (f : Nat → Int32) : qF [i] m (qa_pt m i f) := fun c hc => pt_n (by simpa using hc)
theorem qF.st (m : qaM) (i k : Nat) (v : Int32) : qF [i] m (qa_st m i k v) := qF.pt m i _
-- loops: the state goes from I j to I (j + 1), or the loop ends with P
theorem lp_run {σ ρ : Type} {f : σ → Option (σ ⊕ ρ)} (I : Nat → σ → Prop) (P : ρ → Prop) (N : Nat)
    (hs : ∀ (j : Nat) (s : σ), j ≤ N → I j s → (∃ s', f s = some (.inl s') ∧ j < N ∧ I (j + 1) s') ∨ (∃ r, f s = some (.inr r) ∧ P r)) :
    ∀ (n j : Nat) (s : σ), j ≤ N → I j s → N < j + n → ∃ r, qa_lp f n s = some r ∧ P r := by
  intro n
  induction n with
  | zero =>
    intro j s hj hI hn
    omega
  | succ n ih =>
    intro j s hj hI hn
    rcases hs j s hj hI with ⟨s', h1, h2, h3⟩ | ⟨r, h1, h2⟩
    · obtain ⟨r, h4, h5⟩ := ih (j + 1) s' (by omega) h3 (by omega)
      exact ⟨r, by rw [qa_lp, h1]; exact h4, h5⟩
    · exact ⟨r, by rw [qa_lp, h1], h2⟩
theorem lp_at {σ ρ : Type} {f : σ → Option (σ ⊕ ρ)} (I : Nat → σ → Prop) (P : ρ → Prop) (N : Nat) {s : σ} (h0 : I 0 s) (hN : N < 1900)
    (hs : ∀ (j : Nat) (s : σ), j ≤ N → I j s → (∃ s', f s = some (.inl s') ∧ j < N ∧ I (j + 1) s') ∨ (∃ r, f s = some (.inr r) ∧ P r)) : ∃ r, qa_lp f qa_F s = some r ∧ P r :=
  lp_run I P N hs qa_F 0 s (Nat.zero_le _) h0 (by unfold qa_F; omega)

