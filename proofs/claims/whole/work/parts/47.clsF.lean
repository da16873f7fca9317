/-! PURE: the class's house, weeks on weeks -/
/-- a house and its tally -/
def TY : Type := HS × Nat × Nat × Nat × Nat
def wkT (S : SF) (wan how : Nat) (X : TY) : TY :=
  ((weekA S wan how X.1).1, X.2.1 + (weekA S wan how X.1).2.1, X.2.2.1 ||| (weekA S wan how X.1).2.2,
    fiN X.2.2.2.1 X.2.2.2.2 (lfH X.1.A X.1.n) (lfH (weekA S wan how X.1).1.A (weekA S wan how X.1).1.n), X.2.2.2.2 + 1)
def ty0 (H : HS) : TY := (H, 0, 0, 0, 0)
/-- weeks, each with how many are wanted and how they are taken -/
def seqT (S : SF) (w : Nat → Nat × Nat) (n : Nat) (X : TY) : TY := itN (fun k X => wkT S (w k).1 (w k).2 X) n X
def wksT (S : SF) (n : Nat) (X : TY) : TY := seqT S (fun _ => (X.1.R 0, X.1.R 2)) n X
def CY (m : qaM) (h : Nat) (X : TY) : Prop := CH m h X.1 ∧ CT m h X.2.1 X.2.2.1 X.2.2.2.1 X.2.2.2.2
/-- what a week leaves as it was -/
def HK (H K : HS) : Prop := K.n = H.n ∧ K.R = H.R ∧ K.lw = H.lw
theorem HK.rf (H : HS) : HK H H := ⟨rfl, rfl, rfl⟩
theorem HK.tr {H K L : HS} (h : HK H K) (k : HK K L) : HK H L := ⟨k.1.trans h.1, k.2.1.trans h.2.1, k.2.2.trans h.2.2⟩
theorem itN_K {f : Nat → HS → HS} (hf : ∀ j X, HK X (f j X)) : ∀ (n : Nat) (H : HS), HK H (itN f n H) := by
  intro n
  induction n with
  | zero => exact fun H => HK.rf H
  | succ n ih => exact fun H => (ih H).tr (hf n _)
theorem cbS_K (j : Nat) (X : HS) : HK X (cbS j X) := by
  unfold cbS
  repeat' split
  all_goals exact ⟨rfl, rfl, rfl⟩
theorem waS_K (S : SF) (v j : Nat) (X : HS) : HK X (waS S v j X) := by
  unfold waS
  repeat' split
  all_goals exact ⟨rfl, rfl, rfl⟩
theorem drS_K (p : Nat) (X : HS) : HK X (drS p X) := by
  unfold drS
  split
  all_goals exact ⟨rfl, rfl, rfl⟩
theorem drN_K : ∀ (p : Nat) (H : HS), HK H (drN p H) := by
  intro p
  induction p with
  | zero => exact fun H => HK.rf H
  | succ p ih => exact fun H => (drS_K p H).tr (ih _)
theorem tak_K (wan how : Nat) (H : HS) : HK H (tak wan how H).1 := by
  refine itN_ind (fun _ (x : HS × Nat × Nat) => HK H x.1) wan (HK.rf H) (fun j x _ q => q.tr ?_) wan (Nat.le_refl _)
  unfold tkS
  split
  all_goals exact ⟨rfl, rfl, rfl⟩
theorem week_K (S : SF) (wan how : Nat) (H : HS) : HK H (weekA S wan how H).1 :=
  ((itN_K cbS_K _ H).tr ((tak_K wan how _).tr ((itN_K (f := yeS S) (fun _ _ => ⟨rfl, rfl, rfl⟩) _ _).tr ((itN_K (waS_K S _) _ _).tr (drN_K _ _))))).tr ⟨rfl, rfl, rfl⟩
/-- a tally in its bounds -/
def TV (X : TY) : Prop := HV X.1 ∧ X.2.2.2.1 ≤ X.2.2.2.2
theorem fiN_le {fi li a b : Nat} (h : fi ≤ li) : fiN fi li a b ≤ li + 1 := by
  unfold fiN
  split <;> omega
theorem wkT_V {S : SF} {wan how : Nat} {X : TY} (h : TV X) : TV (wkT S wan how X) ∧ HK X.1 (wkT S wan how X).1 ∧ (wkT S wan how X).2.2.2.2 = X.2.2.2.2 + 1 :=
  ⟨⟨(week_V h.1).1, fiN_le h.2⟩, week_K S wan how X.1, rfl⟩
theorem seqT_V {S : SF} {w : Nat → Nat × Nat} {X : TY} (h : TV X) (n : Nat) : TV (seqT S w n X) ∧ HK X.1 (seqT S w n X).1 ∧ (seqT S w n X).2.2.2.2 = X.2.2.2.2 + n :=
  itN_ind (fun j (x : TY) => TV x ∧ HK X.1 x.1 ∧ x.2.2.2.2 = X.2.2.2.2 + j) n ⟨h, HK.rf _, rfl⟩ (fun j x _ q => by
    have h1 := wkT_V (S := S) (wan := (w j).1) (how := (w j).2) q.1
    exact ⟨h1.1, q.2.1.tr h1.2.1, by rw [h1.2.2, q.2.2]; omega⟩) n (Nat.le_refl _)
theorem kweek {m : qaM} {h wan how N : Nat} {X : TY} {S : SF} (c : CY m h X) (hv : TV X) (hh : 8 ≤ h) (t : TXc m N S) (sv : SV S) (hN : X.1.lw < N) (hw : wan ≤ 8) (hho : how ≤ 3) (hf : X.2.2.2.2 < 2 ^ 30) :
    ∃ m2, f_X0_livesWeek h m (nI wan) (nI how) = some (nI (weekA S wan how X.1).2.1, m2) ∧ CY m2 h (wkT S wan how X) ∧ qF [h, h + 2, h + 3, h + 4, 4, 5] m m2 := by
  have hfi := hv.2
  obtain ⟨m2, h1, h2, h3, h4⟩ := klive c.1 hv.1 c.2 hh t sv hN hw hho (by omega)
  exact ⟨m2, h1, ⟨h2, h3⟩, h4⟩
theorem kweeks {m : qaM} {h n N : Nat} {X : TY} {S : SF} (c : CY m h X) (hv : TV X) (hh : 8 ≤ h) (t : TXc m N S) (sv : SV S) (hN : X.1.lw < N) (hn : n ≤ 300) (hf : X.2.2.2.2 < 2 ^ 20) :
    ∃ m2, f_X0_livesWeeks h m (nI n) = some m2 ∧ CY m2 h (wksT S n X) ∧ qF [h, h + 2, h + 3, h + 4, 4, 5] m m2 := by
  obtain ⟨m2, e1, e2, _, _, e5, _⟩ := lp_for (f := fun s : qaM × Int32 => b_X0_livesWeeks_2 h s.1 (nI n) s.2) (fun _ x => wkT S (X.1.R 0) (X.1.R 2) x)
    (fun j x Y => CY x h Y ∧ TV Y ∧ HK X.1 Y.1 ∧ qF [h, h + 2, h + 3, h + 4, 4, 5] m x ∧ Y.2.2.2.2 = X.2.2.2.2 + j) n (by omega) ⟨c, hv, HK.rf _, qF.rf _ _, rfl⟩
    (by
      rintro j x Y hj ⟨k1, k2, k3, k4, k5⟩
      have hr := hv.1.rs
      obtain ⟨x2, g1, g2, g3⟩ := kweek (wan := X.1.R 0) (how := X.1.R 2) k1 k2 hh (t.F k4 (by simp <;> omega) (by simp <;> omega) (by simp <;> omega)) sv (by rw [k3.2.2]; exact hN) hr.1 hr.2.2.1 (by omega)
      have g4 := wkT_V (S := S) (wan := X.1.R 0) (how := X.1.R 2) k2
      refine ⟨x2, ?_, g2, g4.1, k3.tr g4.2.1, k4.t2 g3 (fun _ z => z), by rw [g4.2.2, k5]; omega⟩
      show b_X0_livesWeeks_2 h x (nI n) (nI j) = _
      unfold b_X0_livesWeeks_2
      rw [k1.1.2.2.1 0 (by omega), k1.1.2.2.1 2 (by omega), k3.2.1]
      ((try simp only [li_0, li_1, li_2, li_3, li_4, li_5, li_6, li_7, li_8, li_9, li_10, li_11, li_12, li_13, li_14, li_15, li_16, li_17, li_18, li_19, li_20, li_30, li_31, li_32, li_33, li_40, li_41, li_42, li_43, li_45, li_48, li_56, li_57, li_59, li_60, li_61, li_64, li_91, li_97, li_99, li_100, li_122, li_150, li_160, li_200, li_201, li_255, li_300, li_303, li_304, li_305, li_306, li_312, li_400, li_500, li_999, li_1003, li_3099, li_99999, li_100000, li_neg]); simp (disch := omega) only [ic_le_f, ic_le_t, ic_lt_f, ic_lt_t, ic_eq_f, ic_eq_t, ic_im, ic_mi, ic_mm_t, ic_mm_f, ic_mlt, ic_mle, ic_ilem, ic_iltm, ic_mmle_t, ic_mmle_f, pu_add, pu_mul, pu_in, pu_ck, pu_let, pu_cl, pu_cpok, pu_inr, Option.bind_some, ite_true, ite_false])
      rw [g1]
      ((try simp only [li_0, li_1, li_2, li_3, li_4, li_5, li_6, li_7, li_8, li_9, li_10, li_11, li_12, li_13, li_14, li_15, li_16, li_17, li_18, li_19, li_20, li_30, li_31, li_32, li_33, li_40, li_41, li_42, li_43, li_45, li_48, li_56, li_57, li_59, li_60, li_61, li_64, li_91, li_97, li_99, li_100, li_122, li_150, li_160, li_200, li_201, li_255, li_300, li_303, li_304, li_305, li_306, li_312, li_400, li_500, li_999, li_1003, li_3099, li_99999, li_100000, li_neg]); simp (disch := omega) only [ic_le_f, ic_le_t, ic_lt_f, ic_lt_t, ic_eq_f, ic_eq_t, ic_im, ic_mi, ic_mm_t, ic_mm_f, ic_mlt, ic_mle, ic_ilem, ic_iltm, ic_mmle_t, ic_mmle_f, pu_add, pu_mul, pu_in, pu_ck, pu_let, pu_cl, pu_cpok, pu_inr, Option.bind_some, ite_true, ite_false]))
    (by
      rintro x Y ⟨k1, k2, k3, k4, k5⟩
      show b_X0_livesWeeks_2 h x (nI n) (nI n) = _
      unfold b_X0_livesWeeks_2
      ((try simp only [li_0, li_1, li_2, li_3, li_4, li_5, li_6, li_7, li_8, li_9, li_10, li_11, li_12, li_13, li_14, li_15, li_16, li_17, li_18, li_19, li_20, li_30, li_31, li_32, li_33, li_40, li_41, li_42, li_43, li_45, li_48, li_56, li_57, li_59, li_60, li_61, li_64, li_91, li_97, li_99, li_100, li_122, li_150, li_160, li_200, li_201, li_255, li_300, li_303, li_304, li_305, li_306, li_312, li_400, li_500, li_999, li_1003, li_3099, li_99999, li_100000, li_neg]); simp (disch := omega) only [ic_le_f, ic_le_t, ic_lt_f, ic_lt_t, ic_eq_f, ic_eq_t, ic_im, ic_mi, ic_mm_t, ic_mm_f, ic_mlt, ic_mle, ic_ilem, ic_iltm, ic_mmle_t, ic_mmle_f, pu_add, pu_mul, pu_in, pu_ck, pu_let, pu_cl, pu_cpok, pu_inr, Option.bind_some, ite_true, ite_false]))
  exact ⟨m2, e1, e2, e5⟩
theorem qF.stl {l : List Nat} {m m1 : qaM} (h1 : qF l m m1) {i k : Nat} {v : Int32} (hi : i ∈ l) : qF l m (qa_st m1 i k v) := h1.t2 (qF.st m1 i k v) (by simpa using hi)
theorem qF.ptl {l : List Nat} {m m1 : qaM} (h1 : qF l m m1) {i : Nat} {f : Nat → Int32} (hi : i ∈ l) : qF l m (qa_pt m1 i f) := h1.t2 (qF.pt m1 i f) (by simpa using hi)
theorem kbegins {m : qaM} {h g : Nat} {H : HS} (c : CH m g H) (hd : h + 5 < g ∨ g + 5 < h) : ∃ m2, f_X0_beginsAs h g m = some m2 ∧ CY m2 h (ty0 H) ∧ qF [h, h + 1, h + 2, h + 3, h + 4, h + 5] m m2 := by
  have hn := c.1.2.1
  have hp := c.2.1.2.1
  refine ⟨qa_st (qa_st (qa_st (qa_st (qa_st (qa_st (qa_pt (qa_pt (qa_st (qa_pt (qa_st m (h + 1) 0 (nI H.n)) (h + 2) (va_cpy (m (g + 2)) (m (h + 2)) 0 0 56)) (h + 3) 0 (nI H.P.length)) (h + 4) (va_cpy (m (g + 4)) (m (h + 4)) 0 0 8)) (h + 5) (va_cpy (m (g + 5)) (m (h + 5)) 0 0 4)) h 3 (nI H.wk)) h 4 (nI H.lw)) h 5 (nI 0)) h 6 (nI 0)) h 7 (nM 1)) h 8 (nI 0), ?_, ?_, ?_⟩
  · unfold f_X0_beginsAs f_X1_becomes f_X2_becomes
    simp only [li_0, li_1, li_2, li_3, li_4, li_5, li_6, li_7, li_8, li_9, li_10, li_11, li_12, li_13, li_14, li_15, li_16, li_17, li_18, li_19, li_20, li_30, li_31, li_32, li_33, li_40, li_41, li_42, li_43, li_45, li_48, li_56, li_57, li_59, li_60, li_61, li_64, li_91, li_97, li_99, li_100, li_122, li_150, li_160, li_200, li_201, li_255, li_300, li_303, li_304, li_305, li_306, li_312, li_400, li_500, li_999, li_1003, li_3099, li_99999, li_100000, li_neg]
    rw [c.1.1]
    ((try simp only [li_0, li_1, li_2, li_3, li_4, li_5, li_6, li_7, li_8, li_9, li_10, li_11, li_12, li_13, li_14, li_15, li_16, li_17, li_18, li_19, li_20, li_30, li_31, li_32, li_33, li_40, li_41, li_42, li_43, li_45, li_48, li_56, li_57, li_59, li_60, li_61, li_64, li_91, li_97, li_99, li_100, li_122, li_150, li_160, li_200, li_201, li_255, li_300, li_303, li_304, li_305, li_306, li_312, li_400, li_500, li_999, li_1003, li_3099, li_99999, li_100000, li_neg]); simp (disch := omega) only [ic_le_f, ic_le_t, ic_lt_f, ic_lt_t, ic_eq_f, ic_eq_t, ic_im, ic_mi, ic_mm_t, ic_mm_f, ic_mlt, ic_mle, ic_ilem, ic_iltm, ic_mmle_t, ic_mmle_f, pu_add, pu_mul, pu_in, pu_ck, pu_let, pu_cl, pu_cpok, pu_inr, Option.bind_some, ite_true, ite_false])
    simp (disch := omega) only [st_n, pt_n, pt_s, c.2.1.1, c.2.2.2.1, c.2.2.2.2]
  · have e2 : ∀ f : Nat → Int32, ∀ k : Nat, k < 56 → va_cpy (m (g + 2)) f 0 0 56 k = m (g + 2) k := fun f k hk => (cpy_in (by omega) (by omega)).trans (by rw [Nat.zero_add, Nat.sub_zero])
    have e4 : ∀ f : Nat → Int32, ∀ k : Nat, k < 8 → va_cpy (m (g + 4)) f 0 0 8 k = m (g + 4) k := fun f k hk => (cpy_in (by omega) (by omega)).trans (by rw [Nat.zero_add, Nat.sub_zero])
    have e5 : ∀ f : Nat → Int32, ∀ k : Nat, k < 4 → va_cpy (m (g + 5)) f 0 0 4 k = m (g + 5) k := fun f k hk => (cpy_in (by omega) (by omega)).trans (by rw [Nat.zero_add, Nat.sub_zero])
    refine ⟨⟨⟨?_, hn, fun i k hi hk => ?_⟩, ⟨?_, hp, fun j hj => ?_⟩, fun k hk => ?_, ?_, ?_⟩, ?_, ?_, ?_, ?_⟩
    · simp (disch := omega) only [st_n, pt_n, st_s, up_s]
      rfl
    · simp (disch := omega) only [st_n, pt_n, pt_s]
      rw [e2 _ _ (by omega)]
      exact c.1.2.2 i k hi hk
    · simp (disch := omega) only [st_n, pt_n, st_s, up_s]
      rfl
    · have hj2 : j < H.P.length := hj
      simp (disch := omega) only [st_n, pt_n, pt_s]
      rw [e4 _ _ (by omega)]
      exact c.2.1.2.2 j hj
    · simp (disch := omega) only [st_n, pt_n, pt_s]
      rw [e5 _ _ hk]
      exact c.2.2.1 k hk
    all_goals simp (disch := omega) only [st_s, up_s, up_n]
    all_goals rfl
  · exact ((((((((((((qF.rf _ m).stl (by simp)).ptl (by simp)).stl (by simp)).ptl (by simp)).ptl (by simp)).stl (by simp)).stl (by simp)).stl (by simp)).stl (by simp)).stl (by simp)).stl (by simp))
