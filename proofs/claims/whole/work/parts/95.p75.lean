/-! PURE: the reference's held signs and codes -/
def r8F (N : Nat) (m m2 : qaM) : Prop := qF [36, 43, 53] m m2 ∧ (∀ k : Nat, (k < 26 ∨ 29 < k) → (k < 32 ∨ 34 < k) → m2 36 k = m 36 k) ∧ ∀ k : Nat, (k < 200 * N ∨ 200 * N + 200 ≤ k) → m2 43 k = m 43 k
theorem r8F.rf (N : Nat) (m : qaM) : r8F N m m := ⟨qF.rf _ _, fun _ _ _ => rfl, fun _ _ => rfl⟩
theorem r8F.st36 {N : Nat} {m x : qaM} (h : r8F N m x) {k : Nat} {v : Int32} (hk : (26 ≤ k ∧ k ≤ 29) ∨ (32 ≤ k ∧ k ≤ 34)) : r8F N m (qa_st x 36 k v) :=
  ⟨h.1.stl (by simp), fun j h1 h2 => by rw [st_s, up_n (by omega)]; exact h.2.1 j h1 h2, fun j hj => by rw [st_n (by omega)]; exact h.2.2 j hj⟩
theorem r8F.st53 {N : Nat} {m x : qaM} (h : r8F N m x) {k : Nat} {v : Int32} : r8F N m (qa_st x 53 k v) :=
  ⟨h.1.stl (by simp), fun j h1 h2 => by rw [st_n (by omega)]; exact h.2.1 j h1 h2, fun j hj => by rw [st_n (by omega)]; exact h.2.2 j hj⟩
theorem r8F.st43 {N : Nat} {m x : qaM} (h : r8F N m x) {k : Nat} {v : Int32} (hk : 200 * N ≤ k ∧ k < 200 * N + 200) : r8F N m (qa_st x 43 k v) :=
  ⟨h.1.stl (by simp), fun j h1 h2 => by rw [st_n (by omega)]; exact h.2.1 j h1 h2, fun j hj => by rw [st_s, up_n (by omega)]; exact h.2.2 j hj⟩
theorem r8F.r7 {N : Nat} {m x y : qaM} (h : r8F N m x) (h2 : r7F x y) : r8F N m y :=
  ⟨h.1.t2 h2.1 (by simp), fun j h3 h4 => (h2.2 j h3).trans (h.2.1 j h3 h4), fun j hj => by rw [h2.1 43 (by decide)]; exact h.2.2 j hj⟩
theorem TPR.r8 {N : Nat} {m x : qaM} {B : Nat → Nat} {L : Nat} (t : TPR m B L) (h : r8F N m x) : TPR x B L := t.F (h.2.1 9 (by omega) (by omega)) (h.1 42 (by decide))
def hdM (x : qaM) : List Nat → Prop
  | [] => True
  | t :: h => x 53 h.length = nI t ∧ hdM x h
theorem hdM.cg {x y : qaM} : ∀ {h : List Nat}, hdM x h → (∀ i : Nat, i < h.length → y 53 i = x 53 i) → hdM y h := by
  intro h
  induction h with
  | nil => exact fun _ _ => trivial
  | cons t h ih =>
    intro a b
    refine ⟨(b _ (by simp)).trans a.1, ih a.2 (fun i hi => b i (by rw [List.length_cons]; omega))⟩
def otM (x : qaM) (N : Nat) (o : List Nat) : Prop := ∀ i : Nat, i < o.length → x 43 (200 * N + i) = nI (o.getD i 0)
def UM (m x : qaM) (N : Nat) (h o : List Nat) (op e q : Nat) : Prop := r8F N m x ∧ x 36 12 = nI N ∧ x 36 26 = nI e ∧ x 36 27 = nI q ∧ x 36 32 = nI h.length ∧ x 36 33 = nI op ∧ x 36 34 = nI o.length ∧ hdM x h ∧ otM x N o
theorem UM.pop {m x : qaM} {N t op e q : Nat} {h o : List Nat} (u : UM m x N (t :: h) o op e q) : UM m (qa_st x 36 32 (nI h.length)) N h o op e q := by
  obtain ⟨u1, u2, u3, u4, u5, u6, u7, u8, u9⟩ := u
  refine ⟨u1.st36 (by omega), ?_, ?_, ?_, ?_, ?_, ?_, ?_, ?_⟩
  · rw [st_s, up_n (by omega), u2]
  · rw [st_s, up_n (by omega), u3]
  · rw [st_s, up_n (by omega), u4]
  · rw [st_s, up_s]
  · rw [st_s, up_n (by omega), u6]
  · rw [st_s, up_n (by omega), u7]
  · exact u8.2.cg (fun i _ => by rw [st_n (by omega)])
  · intro i hi
    rw [st_n (by omega)]
    exact u9 i hi
theorem UM.opn {m x : qaM} {N op e q op2 : Nat} {h o : List Nat} (u : UM m x N h o op e q) : UM m (qa_st x 36 33 (nI op2)) N h o op2 e q := by
  obtain ⟨u1, u2, u3, u4, u5, u6, u7, u8, u9⟩ := u
  refine ⟨u1.st36 (by omega), ?_, ?_, ?_, ?_, ?_, ?_, ?_, ?_⟩
  · rw [st_s, up_n (by omega), u2]
  · rw [st_s, up_n (by omega), u3]
  · rw [st_s, up_n (by omega), u4]
  · rw [st_s, up_n (by omega), u5]
  · rw [st_s, up_s]
  · rw [st_s, up_n (by omega), u7]
  · exact u8.cg (fun i _ => by rw [st_n (by omega)])
  · intro i hi
    rw [st_n (by omega)]
    exact u9 i hi
theorem getD_ap {o : List Nat} {c i : Nat} (hi : i < o.length) : (o ++ [c]).getD i 0 = o.getD i 0 := by
  rw [List.getD_eq_getElem?_getD, List.getElem?_append_left hi, ← List.getD_eq_getElem?_getD]
theorem getD_ap2 {o : List Nat} {c : Nat} : (o ++ [c]).getD o.length 0 = c := by
  rw [List.getD_eq_getElem?_getD, List.getElem?_append_right (Nat.le_refl _), Nat.sub_self]
  rfl
theorem UM.put {m x : qaM} {N op e q c : Nat} {h o : List Nat} (u : UM m x N h o op e q) (ho : o.length < 200) : UM m (qa_st (qa_st x 43 (200 * N + o.length) (nI c)) 36 34 (nI (o.length + 1))) N h (o ++ [c]) op e q := by
  obtain ⟨u1, u2, u3, u4, u5, u6, u7, u8, u9⟩ := u
  refine ⟨(u1.st43 (by omega)).st36 (by omega), ?_, ?_, ?_, ?_, ?_, ?_, ?_, ?_⟩
  · rw [st_s, up_n (by omega), st_n (by omega), u2]
  · rw [st_s, up_n (by omega), st_n (by omega), u3]
  · rw [st_s, up_n (by omega), st_n (by omega), u4]
  · rw [st_s, up_n (by omega), st_n (by omega), u5]
  · rw [st_s, up_n (by omega), st_n (by omega), u6]
  · rw [st_s, up_s, List.length_append]
    rfl
  · exact u8.cg (fun i _ => by rw [st_n (by omega), st_n (by omega)])
  · intro i hi
    rw [List.length_append] at hi
    have hi2 : i < o.length + 1 := hi
    rw [st_n (by omega), st_s]
    by_cases z : i = o.length
    · rw [z, up_s, getD_ap2]
    · rw [up_n (by omega), getD_ap (by omega)]
      exact u9 i (by omega)
theorem UM.hold {m x : qaM} {N op e q t : Nat} {h o : List Nat} (u : UM m x N h o op e q) : UM m (qa_st (qa_st x 53 h.length (nI t)) 36 32 (nI (h.length + 1))) N (t :: h) o op e q := by
  obtain ⟨u1, u2, u3, u4, u5, u6, u7, u8, u9⟩ := u
  refine ⟨u1.st53.st36 (by omega), ?_, ?_, ?_, ?_, ?_, ?_, ?_, ?_⟩
  · rw [st_s, up_n (by omega), st_n (by omega), u2]
  · rw [st_s, up_n (by omega), st_n (by omega), u3]
  · rw [st_s, up_n (by omega), st_n (by omega), u4]
  · rw [st_s, up_s, List.length_cons]
  · rw [st_s, up_n (by omega), st_n (by omega), u6]
  · rw [st_s, up_n (by omega), st_n (by omega), u7]
  · refine ⟨?_, u8.cg (fun i hi => ?_)⟩
    · rw [st_n (by omega), st_s, up_s]
    · rw [st_n (by omega), st_s, up_n (by omega)]
  · intro i hi
    rw [st_n (by omega), st_n (by omega)]
    exact u9 i hi
theorem rputs {m x : qaM} {N op e q c : Nat} {h o : List Nat} (u : UM m x N h o op e q) (hN : N < 6) (ho : o.length < 200) : ∃ x2, f_X7_puts x (nI c) = some x2 ∧ UM m x2 N h (o ++ [c]) op e q := by
  refine ⟨_, ?_, u.put ho⟩
  have h12 := u.2.1
  have h34 := u.2.2.2.2.2.2.1
  have h34b : (qa_st x 43 (200 * N + o.length) (nI c)) 36 34 = nI o.length := by rw [st_n (by omega), h34]
  unfold f_X7_puts
  simp only [li_0, li_1, li_2, li_3, li_4, li_5, li_6, li_7, li_8, li_9, li_10, li_11, li_12, li_13, li_14, li_15, li_16, li_17, li_18, li_19, li_20, li_30, li_31, li_32, li_33, li_40, li_41, li_42, li_43, li_45, li_48, li_56, li_57, li_59, li_60, li_61, li_64, li_91, li_97, li_99, li_100, li_122, li_150, li_160, li_200, li_201, li_255, li_300, li_303, li_304, li_305, li_306, li_312, li_400, li_500, li_999, li_1003, li_3099, li_99999, li_100000, li_1000000, li_65, li_23, li_neg]
  rw [h12, h34, pu_mul, pu_add, pu_in (by omega) (by omega), pu_ck, pu_cl (by omega), pu_let, h34b, pu_add, pu_let]
theorem rholds {m x : qaM} {N op e q t : Nat} {h o : List Nat} (u : UM m x N h o op e q) (hh : h.length < 200) : ∃ x2, f_X7_holds x (nI t) = some x2 ∧ UM m x2 N (t :: h) o op e q := by
  refine ⟨_, ?_, u.hold⟩
  have h32 := u.2.2.2.2.1
  have h32b : (qa_st x 53 h.length (nI t)) 36 32 = nI h.length := by rw [st_n (by omega), h32]
  unfold f_X7_holds
  simp only [li_0, li_1, li_2, li_3, li_4, li_5, li_6, li_7, li_8, li_9, li_10, li_11, li_12, li_13, li_14, li_15, li_16, li_17, li_18, li_19, li_20, li_30, li_31, li_32, li_33, li_40, li_41, li_42, li_43, li_45, li_48, li_56, li_57, li_59, li_60, li_61, li_64, li_91, li_97, li_99, li_100, li_122, li_150, li_160, li_200, li_201, li_255, li_300, li_303, li_304, li_305, li_306, li_312, li_400, li_500, li_999, li_1003, li_3099, li_99999, li_100000, li_1000000, li_65, li_23, li_neg]
  rw [h32, pu_in (by omega) (by omega), pu_ck, pu_cl (by omega), pu_let, h32b, pu_add, pu_let]
theorem rkN_le (c : Nat) : rkN c ≤ 7 := by
  unfold rkN
  repeat' split
  all_goals omega
theorem rrank {m : qaM} {c : Nat} (hc : c < 2 ^ 30) : f_X7_rank m (nI c) = some (nI (rkN c)) := by
  unfold f_X7_rank rkN
  simp only [li_0, li_1, li_2, li_3, li_4, li_5, li_6, li_7, li_8, li_9, li_10, li_11, li_12, li_13, li_14, li_15, li_16, li_17, li_18, li_19, li_20, li_30, li_31, li_32, li_33, li_40, li_41, li_42, li_43, li_45, li_48, li_56, li_57, li_59, li_60, li_61, li_64, li_91, li_97, li_99, li_100, li_122, li_150, li_160, li_200, li_201, li_255, li_300, li_303, li_304, li_305, li_306, li_312, li_400, li_500, li_999, li_1003, li_3099, li_99999, li_100000, li_1000000, li_65, li_23, li_neg]
  by_cases c1 : c = 0
  · rw [ic_eq_t c1, if_pos c1]
  rw [ic_eq_f c1 (by omega) (by omega), if_neg c1]
  by_cases c2 : c = 11
  · rw [ic_eq_t c2, if_pos c2]
  rw [ic_eq_f c2 (by omega) (by omega), if_neg c2]
  by_cases c3 : c = 12
  · rw [ic_eq_t c3, if_pos c3]
  rw [ic_eq_f c3 (by omega) (by omega), if_neg c3]
  by_cases c4 : c = 13
  · rw [ic_eq_t c4, if_pos c4]
  rw [ic_eq_f c4 (by omega) (by omega), if_neg c4]
  by_cases c5 : 15 < c
  · rw [ic_lt_t c5 (by omega), if_pos c5]
    by_cases c6 : 17 < c
    · rw [ic_lt_t c6 (by omega), if_pos c6]
      by_cases c7 : c = 18
      · rw [ic_eq_t c7, if_pos c7]
      · rw [ic_eq_f c7 (by omega) (by omega), if_neg c7]
    · rw [ic_lt_f (by omega) (by omega), if_neg c6]
  · rw [ic_lt_f (by omega) (by omega), if_neg c5]
theorem rkN_0 {t : Nat} (h : 1 ≤ rkN t) : t ≠ 0 := by
  intro z
  rw [z] at h
  have : rkN 0 = 0 := rfl
  omega
theorem runw1 {m x : qaM} {N e q t r : Nat} {h o : List Nat} (u : UM m x N (t :: h) o (opN (t :: h)) e q) (hN : N < 6) (h1 : 1 ≤ r) (hr : r ≤ rkN t) (ht : t < 2 ^ 30) (hl : h.length + o.length < 200) : ∃ x2, b_X7_unwinds_0 x (nI r) = some (.inl x2) ∧ UM m x2 N h (o ++ [t]) (opN h) e q := by
  have u5 := u.2.2.2.2.1
  rw [List.length_cons] at u5
  have u8 := u.2.2.2.2.2.2.2.1.1
  have hp := u.pop
  have hr7 := rkN_le t
  have ht0 := rkN_0 (t := t) (by omega)
  have p32 : (qa_st x 36 32 (nI h.length)) 36 32 = nI h.length := hp.2.2.2.2.1
  have p33 := hp.2.2.2.2.2.1
  have p53 : (qa_st x 36 32 (nI h.length)) 53 h.length = nI t := by rw [st_n (by omega), u8]
  obtain ⟨x2, d1, d2⟩ := rputs (c := t) (hp.opn (op2 := opN h)) hN (by omega)
  refine ⟨x2, ?_, d2⟩
  have h67 : ∀ s2 : Int32, nI (opN (t :: h)) - s2 = nI (opN h) → b_X7_unwinds_67 (qa_st x 36 32 (nI h.length)) (nI r) (nI t) (nI (opN (t :: h))) s2 = some (.inl x2) := by
    intro s2 hs
    unfold b_X7_unwinds_67
    rw [hs, pu_let, d1]
    rfl
  have ho : opN (t :: h) = opC t + opN h := rfl
  unfold b_X7_unwinds_0 b_X7_unwinds_62
  simp only [li_0, li_1, li_2, li_3, li_4, li_5, li_6, li_7, li_8, li_9, li_10, li_11, li_12, li_13, li_14, li_15, li_16, li_17, li_18, li_19, li_20, li_30, li_31, li_32, li_33, li_40, li_41, li_42, li_43, li_45, li_48, li_56, li_57, li_59, li_60, li_61, li_64, li_91, li_97, li_99, li_100, li_122, li_150, li_160, li_200, li_201, li_255, li_300, li_303, li_304, li_305, li_306, li_312, li_400, li_500, li_999, li_1003, li_3099, li_99999, li_100000, li_1000000, li_65, li_23, li_neg]
  rw [u5, ic_le_f (by omega) (by omega), pu_sub (by omega), show h.length + 1 - 1 = h.length by omega, pu_in (by omega) (by omega), pu_ck, pu_cl (by omega), u8, rrank ht, Option.bind_some, ic_lt_f hr (by omega), pu_let, p32, pu_in (by omega) (by omega), pu_ck, pu_cl (by omega), p53, pu_let, p33]
  by_cases c1 : t = 13
  · rw [ic_eq_t c1]
    refine h67 _ ?_
    have : opC t = 1 := if_pos (Or.inr (Or.inl c1))
    rw [ho, this, pu_sub (by omega)]
    exact congrArg nI (by omega)
  · rw [ic_eq_f c1 (by omega) (by omega)]
    by_cases c2 : t = 19
    · rw [ic_eq_t c2]
      refine h67 _ ?_
      have : opC t = 1 := if_pos (Or.inr (Or.inr c2))
      rw [ho, this, pu_sub (by omega)]
      exact congrArg nI (by omega)
    · rw [ic_eq_f c2 (by omega) (by omega)]
      refine h67 _ ?_
      have : opC t = 0 := if_neg (by omega)
      rw [ho, this, pu_sub (by omega)]
      exact congrArg nI (by omega)
theorem runw0 {m x : qaM} {N e q r op : Nat} {h o : List Nat} (u : UM m x N h o op e q) (hr : trk r h) (hr2 : r < 100) (hc : ∀ t ∈ h, t < 2 ^ 30) (hl : h.length < 200) : b_X7_unwinds_0 x (nI r) = some (.inr x) := by
  have u5 := u.2.2.2.2.1
  unfold b_X7_unwinds_0
  simp only [li_0, li_1, li_2, li_3, li_4, li_5, li_6, li_7, li_8, li_9, li_10, li_11, li_12, li_13, li_14, li_15, li_16, li_17, li_18, li_19, li_20, li_30, li_31, li_32, li_33, li_40, li_41, li_42, li_43, li_45, li_48, li_56, li_57, li_59, li_60, li_61, li_64, li_91, li_97, li_99, li_100, li_122, li_150, li_160, li_200, li_201, li_255, li_300, li_303, li_304, li_305, li_306, li_312, li_400, li_500, li_999, li_1003, li_3099, li_99999, li_100000, li_1000000, li_65, li_23, li_neg]
  rw [u5]
  cases h with
  | nil =>
    rw [List.length_nil, ic_le_t (Nat.zero_le _) (by omega)]
    rfl
  | cons t h =>
    have u8 := u.2.2.2.2.2.2.2.1.1
    have hr7 := rkN_le t
    have hrt : rkN t < r := hr
    rw [List.length_cons] at hl ⊢
    rw [ic_le_f (by omega) (by omega), pu_sub (by omega), show h.length + 1 - 1 = h.length by omega, pu_in (by omega) (by omega), pu_ck, pu_cl (by omega), u8, rrank (hc t (List.mem_cons_self ..)), Option.bind_some, ic_lt_t hrt (by omega)]
    rfl
theorem runwF {m : qaM} {N e q r : Nat} (hN : N < 6) (h1 : 1 ≤ r) (hr2 : r < 100) : ∀ (h o : List Nat) (x : qaM) (fuel : Nat), UM m x N h o (opN h) e q → h.length < fuel → h.length + o.length < 200 → (∀ t ∈ h, t < 2 ^ 30) →
    ∃ x2, qa_lp (fun s => b_X7_unwinds_0 s (nI r)) fuel x = some x2 ∧ UM m x2 N (unw r h o).1 (unw r h o).2 (opN (unw r h o).1) e q := by
  intro h
  induction h with
  | nil =>
    intro o x fuel u hf hl hc
    obtain ⟨fu, rfl⟩ : ∃ fu, fuel = fu + 1 := ⟨fuel - 1, by omega⟩
    refine ⟨x, ?_, u⟩
    rw [qa_lp, runw0 (r := r) u trivial hr2 hc (by omega)]
  | cons t h ih =>
    intro o x fuel u hf hl hc
    rw [List.length_cons] at hf hl
    obtain ⟨fu, rfl⟩ : ∃ fu, fuel = fu + 1 := ⟨fuel - 1, by omega⟩
    by_cases w : r ≤ rkN t
    · obtain ⟨x1, d1, d2⟩ := runw1 u hN h1 w (hc t (List.mem_cons_self ..)) (by omega)
      obtain ⟨x2, d3, d4⟩ := ih (o ++ [t]) x1 fu d2 (by omega) (by rw [List.length_append]; show h.length + (o.length + 1) < 200; omega) (fun c hc2 => hc c (List.mem_cons_of_mem _ hc2))
      refine ⟨x2, ?_, ?_⟩
      · rw [qa_lp, d1]
        exact d3
      · rw [unw_ge w]
        exact d4
    · have hu : unw r (t :: h) o = (t :: h, o) := if_neg w
      refine ⟨x, ?_, by rw [hu]; exact u⟩
      rw [qa_lp, runw0 (r := r) u (show rkN t < r by omega) hr2 hc (by rw [List.length_cons]; omega)]
theorem runw {m x : qaM} {N e q r : Nat} {h o : List Nat} (u : UM m x N h o (opN h) e q) (hN : N < 6) (h1 : 1 ≤ r) (hr2 : r < 100) (hl : h.length + o.length < 200) (hc : ∀ t ∈ h, t < 2 ^ 30) : ∃ x2, f_X7_unwinds x (nI r) = some x2 ∧ UM m x2 N (unw r h o).1 (unw r h o).2 (opN (unw r h o).1) e q := runwF hN h1 hr2 h o x qa_F u (by unfold qa_F; omega) hl hc
