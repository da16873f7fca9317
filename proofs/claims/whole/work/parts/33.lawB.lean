/-! THE WORLD OF BOTH -/
def qa_Y2 (Y0 : qaY) (h0 q1 q2 q3 q4 q5 q6 q7 q8 q9 q10 q11 q12 q13 q14 q15 q16 q17 q18 q19 q20 q21 q22 q23 : Nat) : qaY := (Y0.1, Y0.2.1, fun i => if i < 36 then Y0.2.2.1 i else ([h0, q1, q2, q3, q4, q5, q6, q7, q8, q9, q10, q11, q12, q13, q14, q15, q16, q17, q18, q19, q20, q21, q22, q23] : List Nat).getD (i - 36) 0, Y0.2.2.2)
def qaS24 : List qaS := [.inr (7, [none, some 37, some 38, some 39, some 40, none, some 41, none, some 42, none, some 43, some 44, none, none, none, none, none, none, none, some 45, some 46, some 47, some 48, some 49, some 50, some 51, none, none, none, none, some 52, some 53, none, none, none, some 54, some 55, none, none, none, some 56, some 57, some 58, none, none, some 59, none]), .inl 8, .inl 8, .inl 48, .inl 9, .inl 4, .inl 160, .inl 1200, .inl 24, .inl 48, .inl 9, .inl 4, .inl 4, .inl 4, .inl 160, .inl 33, .inl 96, .inl 200, .inl 200, .inl 6, .inl 8, .inl 48, .inl 9, .inl 48]
theorem qa_Y2_lo (Y0 : qaY) (h0 q1 q2 q3 q4 q5 q6 q7 q8 q9 q10 q11 q12 q13 q14 q15 q16 q17 q18 q19 q20 q21 q22 q23 : Nat) {i : Nat} (h : i < 36) : (qa_Y2 Y0 h0 q1 q2 q3 q4 q5 q6 q7 q8 q9 q10 q11 q12 q13 q14 q15 q16 q17 q18 q19 q20 q21 q22 q23).2.2.1 i = Y0.2.2.1 i := if_pos h
theorem qa_c_ad {cI : ClassId} {ad ad2 : Nat → Nat} {f : Nat → Int32} {sh : qaS} (h : ∀ (ci : Nat) (fl : List (Option Nat)), sh = .inr (ci, fl) → ∀ t : Nat, some t ∈ fl → ad t = ad2 t) : qa_c cI ad f sh = qa_c cI ad2 f sh := by
  cases sh with
  | inl n => rfl
  | inr o =>
    obtain ⟨ci, fl⟩ := o
    have e : qa_f ad f fl = qa_f ad2 f fl := by
      unfold qa_f
      apply List.ext_getElem?
      intro j
      simp only [List.getElem?_mapIdx]
      cases hq : fl[j]? with
      | none => rfl
      | some q =>
        cases q with
        | none => rfl
        | some t =>
          show some (Value.ref (ad t)) = some (Value.ref (ad2 t))
          rw [h ci fl rfl t (List.mem_of_getElem? hq)]
    show Sum.inr (ci, qa_f ad f fl) = Sum.inr (ci, qa_f ad2 f fl)
    rw [e]
def qa_lo36 (sh : qaS) : Bool := match sh with
  | .inl _ => true
  | .inr o => o.2.all (fun q => match q with
    | none => true
    | some t => decide (t < 36))
theorem qa_all36 : qaS36.all qa_lo36 = true := by decide +kernel
def mi {α β : Type} (f : Nat → α → β) : Nat → List α → List β
  | _, [] => []
  | k, a :: l => f k a :: mi f (k + 1) l
theorem mi_get {α β : Type} (f : Nat → α → β) : ∀ (l : List α) (k j : Nat), (mi f k l)[j]? = (l[j]?).map (f (j + k)) := by
  intro l
  induction l with
  | nil => intro k j; simp [mi]
  | cons a l ih =>
    intro k j
    cases j with
    | zero => simp [mi]
    | succ j =>
      simp only [mi, List.getElem?_cons_succ]
      rw [ih, show j + (k + 1) = j + 1 + k by omega]
theorem mi_eq {α β : Type} (f : Nat → α → β) (l : List α) : l.mapIdx f = mi f 0 l := by
  apply List.ext_getElem?
  intro j
  rw [mi_get, List.getElem?_mapIdx]
  rfl
set_option maxRecDepth 100000 in
set_option maxHeartbeats 4000000 in
theorem qa_mob (Y0 : qaY) (h0 q1 q2 q3 q4 q5 q6 q7 q8 q9 q10 q11 q12 q13 q14 q15 q16 q17 q18 q19 q20 q21 q22 q23 : Nat) : qa_c (qa_Y2 Y0 h0 q1 q2 q3 q4 q5 q6 q7 q8 q9 q10 q11 q12 q13 q14 q15 q16 q17 q18 q19 q20 q21 q22 q23).2.1 (qa_Y2 Y0 h0 q1 q2 q3 q4 q5 q6 q7 q8 q9 q10 q11 q12 q13 q14 q15 q16 q17 q18 q19 q20 q21 q22 q23).2.2.1 (qa_m0 36) (.inr (7, [none, some 37, some 38, some 39, some 40, none, some 41, none, some 42, none, some 43, some 44, none, none, none, none, none, none, none, some 45, some 46, some 47, some 48, some 49, some 50, some 51, none, none, none, none, some 52, some 53, none, none, none, some 54, some 55, none, none, none, some 56, some 57, some 58, none, none, some 59, none])) = .inr (7, [.int 0, .ref q1, .ref q2, .ref q3, .ref q4, .int 0, .ref q5, .int 0, .ref q6, .int 0, .ref q7, .ref q8, .int 0, .int 0, .int 0, .int 0, .int 0, .int 0, .int 0, .ref q9, .ref q10, .ref q11, .ref q12, .ref q13, .ref q14, .ref q15, .int 0, .int 0, .int 0, .int 0, .ref q16, .ref q17, .int 0, .int 0, .int 0, .ref q18, .ref q19, .int 0, .int 0, .int 0, .ref q20, .ref q21, .ref q22, .int 0, .int 0, .ref q23, .int 0]) := by
  show Sum.inr (7, qa_f _ _ _) = _
  unfold qa_f
  rw [mi_eq]
  rfl
theorem qa_w36 {Y Y2 : qaY} (m : qaM) (h1 : Y2.2.1 = Y.2.1) (h : ∀ i : Nat, i < 36 → Y2.2.2.1 i = Y.2.2.1 i) : qa_w Y2 qaS36 m = qa_w Y qaS36 m := by
  have hl : qaS36.length = 36 := by decide +kernel
  unfold qa_w
  apply List.ext_getElem?
  intro j
  simp only [List.getElem?_mapIdx]
  cases hq : qaS36[j]? with
  | none => rfl
  | some sh =>
    have hj : j < 36 := by rw [← hl]; exact (List.getElem?_eq_some_iff.mp hq).1
    have hs := List.all_eq_true.mp qa_all36 sh (List.mem_of_getElem? hq)
    have hc : qa_c Y2.2.1 Y2.2.2.1 (m j) sh = qa_c Y.2.1 Y.2.2.1 (m j) sh := by
      rw [h1]
      refine qa_c_ad (fun ci fl hf t ht => ?_)
      subst hf
      have h1 := List.all_eq_true.mp hs _ ht
      exact h t (of_decide_eq_true h1)
    rw [Option.map_some, Option.map_some, hc, h j hj]
theorem mi_sh {α β : Type} (f : Nat → α → β) : ∀ (l : List α) (k d : Nat), mi (fun i => f (i + d)) k l = mi f (k + d) l := by
  intro l
  induction l with
  | nil => intro k d; rfl
  | cons a l ih =>
    intro k d
    simp only [mi]
    rw [ih, show k + 1 + d = k + d + 1 by omega]
theorem qa_w_split (Y : qaY) (m : qaM) : qa_w Y qaSh m = qa_w Y qaS36 m ++ mi (fun i sh => (Y.2.2.1 i, qa_c Y.2.1 Y.2.2.1 (m i) sh)) 36 qaS24 := by
  have e : qaSh = qaS36 ++ qaS24 := by decide +kernel
  have hl : qaS36.length = 36 := by decide +kernel
  unfold qa_w
  rw [e, List.mapIdx_append, hl, mi_eq, mi_eq]
  exact congrArg (fun q => mi (fun i sh => (Y.2.2.1 i, qa_c Y.2.1 Y.2.2.1 (m i) sh)) 0 qaS36 ++ q) (mi_sh (fun i sh => (Y.2.2.1 i, qa_c Y.2.1 Y.2.2.1 (m i) sh)) qaS24 0 36)
set_option maxRecDepth 100000 in
set_option maxHeartbeats 4000000 in
theorem qa_Y2_w (Y0 : qaY) (h0 q1 q2 q3 q4 q5 q6 q7 q8 q9 q10 q11 q12 q13 q14 q15 q16 q17 q18 q19 q20 q21 q22 q23 : Nat) : qa_w (qa_Y2 Y0 h0 q1 q2 q3 q4 q5 q6 q7 q8 q9 q10 q11 q12 q13 q14 q15 q16 q17 q18 q19 q20 q21 q22 q23) qaSh qa_m0 = qa_w Y0 qaS36 qa_m0 ++ [(h0, .inr (7, [.int 0, .ref q1, .ref q2, .ref q3, .ref q4, .int 0, .ref q5, .int 0, .ref q6, .int 0, .ref q7, .ref q8, .int 0, .int 0, .int 0, .int 0, .int 0, .int 0, .int 0, .ref q9, .ref q10, .ref q11, .ref q12, .ref q13, .ref q14, .ref q15, .int 0, .int 0, .int 0, .int 0, .ref q16, .ref q17, .int 0, .int 0, .int 0, .ref q18, .ref q19, .int 0, .int 0, .int 0, .ref q20, .ref q21, .ref q22, .int 0, .int 0, .ref q23, .int 0])), (q1, .inl (Y0.2.1, 8, .inl (fun _ => 0))), (q2, .inl (Y0.2.1, 8, .inl (fun _ => 0))), (q3, .inl (Y0.2.1, 48, .inl (fun _ => 0))), (q4, .inl (Y0.2.1, 9, .inl (fun _ => 0))), (q5, .inl (Y0.2.1, 4, .inl ca_X7_55)), (q6, .inl (Y0.2.1, 160, .inl (fun _ => 0))), (q7, .inl (Y0.2.1, 1200, .inl (fun _ => 0))), (q8, .inl (Y0.2.1, 24, .inl (fun _ => 0))), (q9, .inl (Y0.2.1, 48, .inl (fun _ => 0))), (q10, .inl (Y0.2.1, 9, .inl (fun _ => 0))), (q11, .inl (Y0.2.1, 4, .inl (fun _ => 0))), (q12, .inl (Y0.2.1, 4, .inl ca_X7_127)), (q13, .inl (Y0.2.1, 4, .inl (fun _ => 0))), (q14, .inl (Y0.2.1, 160, .inl (fun _ => 0))), (q15, .inl (Y0.2.1, 33, .inl ca_X7_343)), (q16, .inl (Y0.2.1, 96, .inl ca_X7_921)), (q17, .inl (Y0.2.1, 200, .inl (fun _ => 0))), (q18, .inl (Y0.2.1, 200, .inl (fun _ => 0))), (q19, .inl (Y0.2.1, 6, .inl (fun _ => 0))), (q20, .inl (Y0.2.1, 8, .inl (fun _ => 0))), (q21, .inl (Y0.2.1, 48, .inl (fun _ => 0))), (q22, .inl (Y0.2.1, 9, .inl (fun _ => 0))), (q23, .inl (Y0.2.1, 48, .inl (fun _ => 0)))] := by
  rw [qa_w_split, qa_w36 (Y := Y0) (Y2 := qa_Y2 Y0 h0 q1 q2 q3 q4 q5 q6 q7 q8 q9 q10 q11 q12 q13 q14 q15 q16 q17 q18 q19 q20 q21 q22 q23) qa_m0 rfl (fun i hi => qa_Y2_lo Y0 h0 q1 q2 q3 q4 q5 q6 q7 q8 q9 q10 q11 q12 q13 q14 q15 q16 q17 q18 q19 q20 q21 q22 q23 hi)]
  refine congrArg (fun q => qa_w Y0 qaS36 qa_m0 ++ q) ?_
  unfold qaS24
  simp only [mi]
  rw [qa_mob]
  rfl
