/-! PURE: what a house is, and what its week does: one telling for both sides -/
/-- a LINEN: 0 kind, 1 more, 2 worn, 3 yellow, 4 lain, 5 turned, 6 away, 7 is it CLOTHS -/
def AL : Type := Nat → Nat
def aU (a : AL) (k v : Nat) : AL := fun j => if j = k then v else a j
def AL.z : AL := fun _ => 0
def AV (a : AL) : Prop := a 0 ≤ 5 ∧ a 1 ≤ 9 ∧ a 2 ≤ 999 ∧ a 3 ≤ 99 ∧ a 4 ≤ 999 ∧ a 5 ≤ 1 ∧ a 6 ≤ 3 ∧ a 7 ≤ 1
theorem AV.z : AV AL.z := ⟨by decide, by decide, by decide, by decide, by decide, by decide, by decide, by decide⟩
/-- a house: how many LINEN, they, the pile, the rules, the week, the law -/
def HS : Type := Nat × (Nat → AL) × List Nat × (Nat → Nat) × Nat × Nat
def HS.n (H : HS) : Nat := H.1
def HS.A (H : HS) : Nat → AL := H.2.1
def HS.P (H : HS) : List Nat := H.2.2.1
def HS.R (H : HS) : Nat → Nat := H.2.2.2.1
def HS.wk (H : HS) : Nat := H.2.2.2.2.1
def HS.lw (H : HS) : Nat := H.2.2.2.2.2
def HS.setA (H : HS) (i : Nat) (a : AL) : HS := (H.n, fun j => if j = i then a else H.A j, H.P, H.R, H.wk, H.lw)
def HS.setP (H : HS) (P : List Nat) : HS := (H.n, H.A, P, H.R, H.wk, H.lw)
def HS.aged (H : HS) : HS := (H.n, H.A, H.P, H.R, H.wk + 1, H.lw)
theorem setA_s (H : HS) (i : Nat) (a : AL) : (H.setA i a).A i = a := if_pos rfl
theorem setA_n {H : HS} {i j : Nat} {a : AL} (h : j ≠ i) : (H.setA i a).A j = H.A j := if_neg h
def itN {α : Type} (f : Nat → α → α) : Nat → α → α
  | 0, a => a
  | j + 1, a => f j (itN f j a)
def layK (lai : Nat) (P : List Nat) (i : Nat) : Nat := if lai = 1 then P.length else if lai = 0 then 0 else P.findIdx (fun x => decide (i ≤ x))
def HS.lay (H : HS) (i : Nat) : HS := H.setP (insA H.P (layK (H.R 3) H.P i) i)
def cbS (i : Nat) (H : HS) : HS :=
  if H.A i 7 = 1 then H else if H.A i 6 = 0 then H
  else if H.A i 6 = 1 then (H.setA i (aU (H.A i) 6 0)).lay i
  else H.setA i (aU (H.A i) 6 (H.A i 6 - 1))
def cb (H : HS) : HS := itN cbS H.n H
def scK (g : Nat → Nat → Bool) (P : List Nat) : Nat → Nat
  | 0 => 0
  | j + 1 => if j = 0 then 0 else if g (P.getD j 0) (P.getD (scK g P j) 0) = true then j else scK g P j
def tkK (how : Nat) (H : HS) : Nat :=
  if how = 0 then 0 else if how = 1 then H.P.length - 1
  else if how = 2 then scK (fun x y => decide (H.A x 2 < H.A y 2)) H.P H.P.length
  else scK (fun x y => decide (H.A y 4 < H.A x 4)) H.P H.P.length
/-- what is taken: the house, too few, who worked -/
def tkS (how : Nat) (_ : Nat) (T : HS × Nat × Nat) : HS × Nat × Nat :=
  if T.1.P.length = 0 then (T.1, T.2.1 + 1, T.2.2)
  else (T.1.setP (rmA T.1.P (tkK how T.1)), T.2.1, T.2.2 ||| 2 ^ T.1.P.getD (tkK how T.1) 0)
def nmF (a b c d e f : Int32) (k : Nat) : Int32 := if k = 0 then a else if k = 1 then b else if k = 2 then c else if k = 3 then d else if k = 4 then e else f
def nmA (H : HS) (a : AL) : Nat → Int32 := nmF (nI (a 2)) (nI (a 4)) (nI (a 1)) (nI (a 5)) (nI H.wk) (nI (H.R 0))
def yeB (a : AL) (s : Nat) : Nat := if a 0 = 1 then s + 1 else if a 0 = 3 then (if a 4 ≤ 10 then s + 1 else 2 * (s + 1)) else s
def waB (a : AL) (s : Nat) : Nat :=
  if a 0 = 1 then s - a 1 / 2 else if a 0 = 2 then s + (if a 2 ≤ 200 then 0 else a 1)
  else if a 0 = 3 then s - a 1 / 2 else if a 0 = 4 then s + (if a 2 ≤ 200 then 0 else a 1) + 2
  else if a 0 = 5 then s / 2 else s
def lasA (a : AL) : Nat :=
  if a 0 = 2 then 400 - 20 * a 1 else if a 0 = 3 then 400 + 10 * a 1 else if a 0 = 4 then 500 - 20 * a 1
  else if a 0 = 5 then 150 + 10 * a 1 else 400
/-- what the law says: law, part, what the names are -/
def SF : Type := Nat → Nat → (Nat → Int32) → Nat
def SV (S : SF) : Prop := ∀ l p f, S l p f ≤ 99
def mnN (a b : Nat) : Nat := if b < a then b else a
def yeA (S : SF) (H : HS) (a : AL) : AL := aU (aU a 3 (mnN 99 (a 3 + yeB a (S H.lw 1 (nmA H a))))) 4 (mnN 999 (a 4 + 1))
def yeS (S : SF) (j : Nat) (H : HS) : HS := H.setA (H.P.getD j 0) (yeA S H (H.A (H.P.getD j 0)))
def yel (S : SF) (H : HS) : HS := itN (yeS S) H.P.length H
def waA (S : SF) (H : HS) (a : AL) : AL := aU (aU (aU a 2 (mnN 999 (a 2 + waB a (S H.lw 0 (nmA H a))))) 4 0) 6 (H.R 1)
def waS (S : SF) (v : Nat) (i : Nat) (H : HS) : HS :=
  if v.testBit i = true then
    (if waA S H (H.A i) 2 < lasA (H.A i) then
      (if H.R 1 = 0 then (H.setA i (waA S H (H.A i))).lay i else H.setA i (waA S H (H.A i)))
     else H.setA i (aU (waA S H (H.A i)) 7 1))
  else H
def was (S : SF) (v : Nat) (H : HS) : HS := itN (waS S v) H.n H
def drS (p : Nat) (H : HS) : HS :=
  if H.A (H.P.getD p 0) 3 = 99 then (H.setP (rmA H.P p)).setA (H.P.getD p 0) (aU (H.A (H.P.getD p 0)) 7 1) else H
def drN : Nat → HS → HS
  | 0, H => H
  | p + 1, H => drN p (drS p H)
def drp (H : HS) : HS := drN H.P.length H
def tak (wan how : Nat) (H : HS) : HS × Nat × Nat := itN (tkS how) wan (H, 0, 0)
/-- a week: the house, too few, who worked -/
def weekA (S : SF) (wan how : Nat) (H : HS) : HS × Nat × Nat :=
  ((drp (was S (tak wan how (cb H)).2.2 (yel S (tak wan how (cb H)).1))).aged, (tak wan how (cb H)).2)
-- what every house keeps
def HV (H : HS) : Prop := H.n ≤ 8 ∧ (∀ i, AV (H.A i)) ∧ H.P.Nodup ∧ (∀ x ∈ H.P, x < H.n) ∧ (∀ x ∈ H.P, H.A x 6 = 0 ∧ H.A x 7 = 0)
  ∧ (∀ i, H.n ≤ i → H.A i = AL.z) ∧ H.R 0 ≤ 8 ∧ H.R 1 ≤ 3 ∧ H.R 2 ≤ 3 ∧ H.R 3 ≤ 2 ∧ H.lw < 6
theorem HV.n8 {H : HS} (h : HV H) : H.n ≤ 8 := h.1
theorem HV.av {H : HS} (h : HV H) : ∀ i, AV (H.A i) := h.2.1
theorem HV.nd {H : HS} (h : HV H) : H.P.Nodup := h.2.2.1
theorem HV.lt {H : HS} (h : HV H) : ∀ x ∈ H.P, x < H.n := h.2.2.2.1
theorem HV.fr {H : HS} (h : HV H) : ∀ x ∈ H.P, H.A x 6 = 0 ∧ H.A x 7 = 0 := h.2.2.2.2.1
theorem HV.zr {H : HS} (h : HV H) : ∀ i, H.n ≤ i → H.A i = AL.z := h.2.2.2.2.2.1
theorem HV.rs {H : HS} (h : HV H) : H.R 0 ≤ 8 ∧ H.R 1 ≤ 3 ∧ H.R 2 ≤ 3 ∧ H.R 3 ≤ 2 ∧ H.lw < 6 := h.2.2.2.2.2.2
theorem nd_len : ∀ (n : Nat) (P : List Nat), P.Nodup → (∀ x ∈ P, x < n) → P.length ≤ n := by
  intro n
  induction n with
  | zero =>
    intro P _ h
    cases P with
    | nil => exact Nat.le_refl _
    | cons x P => exact absurd (h x (List.mem_cons_self)) (Nat.not_lt_zero _)
  | succ n ih =>
    intro P hn h
    have h1 := ih (P.erase n) (hn.erase n) (fun x hx => by
      have h2 := (hn.mem_erase_iff).mp hx
      have := h x h2.2
      have := h2.1
      omega)
    have h2 : P.length - 1 ≤ (P.erase n).length := by
      rw [List.length_erase]
      split <;> omega
    omega
theorem HV.len {H : HS} (h : HV H) : H.P.length ≤ H.n := nd_len _ _ h.nd h.lt
theorem HV.len8 {H : HS} (h : HV H) : H.P.length ≤ 8 := Nat.le_trans h.len h.n8
theorem HV.lenN {H : HS} (h : HV H) {i : Nat} (hi : i < H.n) (hn : i ∉ H.P) : H.P.length < H.n := by
  have := nd_len H.n (i :: H.P) (List.nodup_cons.mpr ⟨hn, h.nd⟩) (fun x hx => by
    rcases List.mem_cons.mp hx with rfl | hx
    · exact hi
    · exact h.lt x hx)
  simp only [List.length_cons] at this
  omega
theorem mem_insA {P : List Nat} {k i x : Nat} : x ∈ insA P k i ↔ x = i ∨ x ∈ P := by
  unfold insA
  rw [List.mem_append, List.mem_cons]
  have h : x ∈ P ↔ x ∈ P.take k ∨ x ∈ P.drop k := by
    rw [← List.mem_append, List.take_append_drop]
  rw [h]
  constructor
  · rintro (q | q | q)
    · exact Or.inr (Or.inl q)
    · exact Or.inl q
    · exact Or.inr (Or.inr q)
  · rintro (q | q | q)
    · exact Or.inr (Or.inl q)
    · exact Or.inl q
    · exact Or.inr (Or.inr q)
theorem nd_insA {P : List Nat} {k i : Nat} (h : P.Nodup) (hi : i ∉ P) : (insA P k i).Nodup := by
  have h1 : (insA P k i).Perm (i :: P) := by
    unfold insA
    refine List.perm_middle.trans ?_
    rw [List.take_append_drop]
  exact h1.nodup_iff.mpr (List.nodup_cons.mpr ⟨hi, h⟩)
theorem rmA_sub (P : List Nat) (k : Nat) : (rmA P k).Sublist P := by
  have h : rmA P k = P.eraseIdx k := by
    unfold rmA
    rw [List.eraseIdx_eq_take_drop_succ]
  rw [h]
  exact List.eraseIdx_sublist _ _
theorem rmA_split {P : List Nat} {k : Nat} (hk : k < P.length) : P.Perm (P.getD k 0 :: rmA P k) := by
  have h : P = P.take k ++ P.getD k 0 :: P.drop (k + 1) := by
    rw [List.getD_eq_getElem?_getD, List.getElem?_eq_getElem hk, Option.getD_some, List.getElem_cons_drop, List.take_append_drop]
  exact (List.Perm.of_eq h).trans List.perm_middle
theorem rmA_nm {P : List Nat} {k : Nat} (h : P.Nodup) (hk : k < P.length) : P.getD k 0 ∉ rmA P k := (List.nodup_cons.mp ((rmA_split hk).nodup_iff.mp h)).1
theorem getD_mem {P : List Nat} {k : Nat} (hk : k < P.length) : P.getD k 0 ∈ P := by
  rw [List.getD_eq_getElem?_getD, List.getElem?_eq_getElem hk, Option.getD_some]
  exact List.getElem_mem hk
theorem mem_rmA {P : List Nat} {k x : Nat} (h : P.Nodup) (hk : k < P.length) : x ∈ rmA P k ↔ x ∈ P ∧ x ≠ P.getD k 0 := by
  have h1 := (rmA_split hk).mem_iff (a := x)
  rw [h1, List.mem_cons]
  constructor
  · intro q
    refine ⟨Or.inr q, ?_⟩
    rintro rfl
    exact rmA_nm h hk q
  · rintro ⟨q | q, q2⟩
    · exact absurd q q2
    · exact q
-- what keeps it
theorem aU_s (a : AL) (k v : Nat) : aU a k v k = v := if_pos rfl
theorem aU_n {a : AL} {j k v : Nat} (h : j ≠ k) : aU a k v j = a j := if_neg h
theorem HV.setA {H : HS} (h : HV H) {i : Nat} {a : AL} (hi : i < H.n) (ha : AV a) (hp : i ∈ H.P → a 6 = 0 ∧ a 7 = 0) : HV (H.setA i a) := by
  refine ⟨h.n8, fun j => ?_, h.nd, h.lt, fun x hx => ?_, fun j hj => ?_, h.rs⟩
  · by_cases q : j = i
    · rw [q, setA_s]
      exact ha
    · rw [setA_n q]
      exact h.av j
  · by_cases q : x = i
    · rw [q, setA_s]
      exact hp (q ▸ hx)
    · rw [setA_n q]
      exact h.fr x hx
  · have hj2 : H.n ≤ j := hj
    rw [setA_n (by omega)]
    exact h.zr j hj
theorem HV.setP {H : HS} (h : HV H) {P : List Nat} (hd : P.Nodup) (hl : ∀ x ∈ P, x < H.n) (hf : ∀ x ∈ P, H.A x 6 = 0 ∧ H.A x 7 = 0) : HV (H.setP P) :=
  ⟨h.n8, h.av, hd, hl, hf, h.zr, h.rs⟩
theorem HV.rm {H : HS} (h : HV H) (k : Nat) : HV (H.setP (rmA H.P k)) :=
  h.setP (h.nd.sublist (rmA_sub _ _)) (fun x hx => h.lt x ((rmA_sub _ _).subset hx)) (fun x hx => h.fr x ((rmA_sub _ _).subset hx))
theorem HV.lay {H : HS} (h : HV H) {i : Nat} (hi : i < H.n) (hp : i ∉ H.P) (ha : H.A i 6 = 0 ∧ H.A i 7 = 0) : HV (H.lay i) := by
  refine h.setP (nd_insA h.nd hp) (fun x hx => ?_) (fun x hx => ?_)
  · rcases mem_insA.mp hx with rfl | q
    · exact hi
    · exact h.lt x q
  · rcases mem_insA.mp hx with rfl | q
    · exact ha
    · exact h.fr x q
theorem AV.u {a : AL} (h : AV a) {k v : Nat} (hk : v ≤ (if k = 0 then 5 else if k = 1 then 9 else if k = 2 then 999 else if k = 3 then 99 else if k = 4 then 999 else if k = 5 then 1 else if k = 6 then 3 else 1)) : AV (aU a k v) := by
  obtain ⟨h0, h1, h2, h3, h4, h5, h6, h7⟩ := h
  refine ⟨?_, ?_, ?_, ?_, ?_, ?_, ?_, ?_⟩
  · by_cases q : 0 = k
    · subst q; rw [aU_s]; exact hk
    · rw [aU_n q]; exact h0
  · by_cases q : 1 = k
    · subst q; rw [aU_s]; exact hk
    · rw [aU_n q]; exact h1
  · by_cases q : 2 = k
    · subst q; rw [aU_s]; exact hk
    · rw [aU_n q]; exact h2
  · by_cases q : 3 = k
    · subst q; rw [aU_s]; exact hk
    · rw [aU_n q]; exact h3
  · by_cases q : 4 = k
    · subst q; rw [aU_s]; exact hk
    · rw [aU_n q]; exact h4
  · by_cases q : 5 = k
    · subst q; rw [aU_s]; exact hk
    · rw [aU_n q]; exact h5
  · by_cases q : 6 = k
    · subst q; rw [aU_s]; exact hk
    · rw [aU_n q]; exact h6
  · by_cases q : 7 = k
    · subst q; rw [aU_s]; exact hk
    · rw [aU_n q]; exact h7
theorem layK_le (r : Nat) (P : List Nat) (i : Nat) : layK r P i ≤ P.length := by
  unfold layK
  split
  · exact Nat.le_refl _
  · split
    · exact Nat.zero_le _
    · exact List.findIdx_le_length
/-- an induction over the steps of a loop -/
theorem itN_ind {α : Type} {f : Nat → α → α} {a : α} (Q : Nat → α → Prop) (n : Nat) (h0 : Q 0 a) (hs : ∀ (j : Nat) (x : α), j < n → Q j x → Q (j + 1) (f j x)) : ∀ j, j ≤ n → Q j (itN f j a) := by
  intro j
  induction j with
  | zero => exact fun _ => h0
  | succ j ih => exact fun hj => hs j _ (by omega) (ih (by omega))
theorem cbS_V {H : HS} {i : Nat} (h : HV H) (hi : i < H.n) : HV (cbS i H) ∧ (cbS i H).n = H.n := by
  unfold cbS
  by_cases h7 : H.A i 7 = 1
  · rw [if_pos h7]
    exact ⟨h, rfl⟩
  rw [if_neg h7]
  by_cases h6 : H.A i 6 = 0
  · rw [if_pos h6]
    exact ⟨h, rfl⟩
  rw [if_neg h6]
  have hp : i ∉ H.P := fun q => h6 (h.fr i q).1
  have h70 : H.A i 7 = 0 := by
    have := (h.av i).2.2.2.2.2.2.2
    omega
  have h63 := (h.av i).2.2.2.2.2.2.1
  by_cases h61 : H.A i 6 = 1
  · rw [if_pos h61]
    refine ⟨HV.lay (HV.setA h hi ((h.av i).u (Nat.zero_le _)) (fun q => absurd q hp)) hi hp ?_, rfl⟩
    rw [setA_s]
    exact ⟨aU_s _ _ _, (aU_n (by decide)).trans h70⟩
  · rw [if_neg h61]
    exact ⟨HV.setA h hi ((h.av i).u (show H.A i 6 - 1 ≤ 3 by omega)) (fun q => absurd q hp), rfl⟩
theorem cb_V {H : HS} (h : HV H) : HV (cb H) ∧ (cb H).n = H.n :=
  itN_ind (fun _ x => HV x ∧ x.n = H.n) H.n ⟨h, rfl⟩ (fun j x hj q => by
    have h1 := cbS_V q.1 (i := j) (by rw [q.2]; exact hj)
    exact ⟨h1.1, h1.2.trans q.2⟩) H.n (Nat.le_refl _)
theorem scK_lt {g : Nat → Nat → Bool} {P : List Nat} : ∀ j, 0 < j → scK g P j < j := by
  intro j
  induction j with
  | zero => intro h; omega
  | succ j ih =>
    intro _
    unfold scK
    split
    · omega
    · split
      · omega
      · have := ih (by omega)
        omega
theorem tkK_lt {how : Nat} {H : HS} (h : 0 < H.P.length) : tkK how H < H.P.length := by
  unfold tkK
  split
  · exact h
  · split
    · omega
    · split
      · exact scK_lt _ h
      · exact scK_lt _ h
/-- who worked is not in the pile, and not away -/
def WV (H : HS) (v j : Nat) : Prop := ∀ i : Nat, j ≤ i → v.testBit i = true → i < H.n ∧ i ∉ H.P ∧ H.A i 6 = 0 ∧ H.A i 7 = 0
theorem tkS_V {how j : Nat} {T : HS × Nat × Nat} (h : HV T.1) (hw : WV T.1 T.2.2 0) : HV (tkS how j T).1 ∧ WV (tkS how j T).1 (tkS how j T).2.2 0 ∧ (tkS how j T).1.n = T.1.n := by
  unfold tkS
  by_cases h0 : T.1.P.length = 0
  · rw [if_pos h0]
    exact ⟨h, hw, rfl⟩
  · rw [if_neg h0]
    have hk := tkK_lt (how := how) (H := T.1) (by omega)
    refine ⟨h.rm _, fun i hi hb => ?_, rfl⟩
    have hb1 : (T.2.2 ||| 2 ^ T.1.P.getD (tkK how T.1) 0).testBit i = true := hb
    rw [Nat.testBit_or, Nat.testBit_two_pow, Bool.or_eq_true, decide_eq_true_eq] at hb1
    rcases hb1 with hb1 | hb1
    · have h1 := hw i hi hb1
      exact ⟨h1.1, fun q => h1.2.1 ((rmA_sub _ _).subset q), h1.2.2⟩
    · subst hb1
      have hm := getD_mem hk
      exact ⟨h.lt _ hm, rmA_nm h.nd hk, h.fr _ hm⟩
theorem tak_V {wan how : Nat} {H : HS} (h : HV H) : HV (tak wan how H).1 ∧ WV (tak wan how H).1 (tak wan how H).2.2 0 ∧ (tak wan how H).1.n = H.n :=
  itN_ind (fun _ (x : HS × Nat × Nat) => HV x.1 ∧ WV x.1 x.2.2 0 ∧ x.1.n = H.n) wan ⟨h, fun i _ hb => by
      have hb1 : (0 : Nat).testBit i = true := hb
      rw [Nat.zero_testBit] at hb1
      exact absurd hb1 (by decide), rfl⟩ (fun j x _ q => by
    have h1 := tkS_V (how := how) (j := j) q.1 q.2.1
    exact ⟨h1.1, h1.2.1, h1.2.2.trans q.2.2⟩) wan (Nat.le_refl _)
theorem mnN_le {a b : Nat} : mnN a b ≤ a := by
  unfold mnN
  split <;> omega
theorem yeA_V {S : SF} {H : HS} {a : AL} (h : AV a) : AV (yeA S H a) := (h.u (k := 3) mnN_le).u (k := 4) mnN_le
theorem yeA_6 {S : SF} {H : HS} {a : AL} : yeA S H a 6 = a 6 ∧ yeA S H a 7 = a 7 := ⟨rfl, rfl⟩
theorem yeS_V {S : SF} {H : HS} {j v : Nat} (h : HV H) (hw : WV H v 0) (hj : j < H.P.length) : HV (yeS S j H) ∧ WV (yeS S j H) v 0 ∧ (yeS S j H).n = H.n ∧ (yeS S j H).P = H.P := by
  have hm := getD_mem hj
  refine ⟨HV.setA h (h.lt _ hm) (yeA_V (h.av _)) (fun _ => h.fr _ hm), fun i hi hb => ?_, rfl, rfl⟩
  have h1 := hw i hi hb
  refine ⟨h1.1, h1.2.1, ?_⟩
  by_cases q : i = H.P.getD j 0
  · exact absurd (q ▸ hm) h1.2.1
  · unfold yeS
    rw [setA_n q]
    exact h1.2.2
theorem yel_V {S : SF} {H : HS} {v : Nat} (h : HV H) (hw : WV H v 0) : HV (yel S H) ∧ WV (yel S H) v 0 ∧ (yel S H).n = H.n ∧ (yel S H).P = H.P :=
  itN_ind (fun _ x => HV x ∧ WV x v 0 ∧ x.n = H.n ∧ x.P = H.P) H.P.length ⟨h, hw, rfl, rfl⟩ (fun j x hj q => by
    have h1 := yeS_V (S := S) (j := j) q.1 q.2.1 (by rw [q.2.2.2]; exact hj)
    exact ⟨h1.1, h1.2.1, h1.2.2.1.trans q.2.2.1, h1.2.2.2.trans q.2.2.2⟩) H.P.length (Nat.le_refl _)
theorem waA_V {S : SF} {H : HS} {a : AL} (h : AV a) (hr : H.R 1 ≤ 3) : AV (waA S H a) := ((h.u (k := 2) mnN_le).u (k := 4) (Nat.zero_le _)).u (k := 6) hr
theorem waS_V {S : SF} {H : HS} {i v : Nat} (h : HV H) (hw : WV H v i) (hi : i < H.n) : HV (waS S v i H) ∧ WV (waS S v i H) v (i + 1) ∧ (waS S v i H).n = H.n := by
  have hwn : WV H v (i + 1) := fun j hj hb => hw j (by omega) hb
  have hr := h.rs.2.1
  unfold waS
  by_cases hb : v.testBit i = true
  · rw [if_pos hb]
    have h1 := hw i (Nat.le_refl _) hb
    have ha := waA_V (S := S) (h.av i) hr
    have hA : HV (H.setA i (waA S H (H.A i))) := HV.setA h hi ha (fun q => absurd q h1.2.1)
    by_cases hl : waA S H (H.A i) 2 < lasA (H.A i)
    · rw [if_pos hl]
      by_cases h0 : H.R 1 = 0
      · rw [if_pos h0]
        refine ⟨HV.lay hA hi h1.2.1 ?_, fun j hj hb => ?_, rfl⟩
        · rw [setA_s]
          exact ⟨h0, h1.2.2.2⟩
        · have h2 := hwn j hj hb
          refine ⟨h2.1, fun q => ?_, ?_⟩
          · rcases mem_insA.mp q with q | q
            · omega
            · exact h2.2.1 q
          · have h3 : ((H.setA i (waA S H (H.A i))).lay i).A j = (H.setA i (waA S H (H.A i))).A j := rfl
            rw [h3, setA_n (by omega)]
            exact h2.2.2
      · rw [if_neg h0]
        refine ⟨hA, fun j hj hb => ?_, rfl⟩
        have h2 := hwn j hj hb
        refine ⟨h2.1, h2.2.1, ?_⟩
        rw [setA_n (by omega)]
        exact h2.2.2
    · rw [if_neg hl]
      refine ⟨HV.setA h hi (ha.u (k := 7) (Nat.le_refl 1)) (fun q => absurd q h1.2.1), fun j hj hb => ?_, rfl⟩
      have h2 := hwn j hj hb
      refine ⟨h2.1, h2.2.1, ?_⟩
      rw [setA_n (by omega)]
      exact h2.2.2
  · rw [if_neg hb]
    exact ⟨h, hwn, rfl⟩
theorem was_V {S : SF} {H : HS} {v : Nat} (h : HV H) (hw : WV H v 0) : HV (was S v H) ∧ (was S v H).n = H.n := by
  have h1 := itN_ind (f := waS S v) (a := H) (fun j x => HV x ∧ WV x v j ∧ x.n = H.n) H.n ⟨h, hw, rfl⟩ (fun j x hj q => by
    have h1 := waS_V (S := S) (i := j) q.1 q.2.1 (by rw [q.2.2]; exact hj)
    exact ⟨h1.1, h1.2.1, h1.2.2.trans q.2.2⟩) H.n (Nat.le_refl _)
  exact ⟨h1.1, h1.2.2⟩
theorem drS_V {H : HS} {p : Nat} (h : HV H) (hp : p < H.P.length) : HV (drS p H) ∧ (drS p H).n = H.n ∧ p ≤ (drS p H).P.length := by
  unfold drS
  by_cases h9 : H.A (H.P.getD p 0) 3 = 99
  · rw [if_pos h9]
    refine ⟨HV.setA (h.rm p) (h.lt _ (getD_mem hp)) ((h.av _).u (k := 7) (Nat.le_refl 1)) (fun q => absurd q (rmA_nm h.nd hp)), rfl, ?_⟩
    have h1 : ((H.setP (rmA H.P p)).setA (H.P.getD p 0) (aU (H.A (H.P.getD p 0)) 7 1)).P = rmA H.P p := rfl
    rw [h1, rmA_len hp]
    omega
  · rw [if_neg h9]
    exact ⟨h, rfl, by omega⟩
theorem drN_V : ∀ (p : Nat) {H : HS}, HV H → p ≤ H.P.length → HV (drN p H) ∧ (drN p H).n = H.n := by
  intro p
  induction p with
  | zero => exact fun h _ => ⟨h, rfl⟩
  | succ p ih =>
    intro H h hp
    have h1 := drS_V h (p := p) (by omega)
    have h2 := ih h1.1 h1.2.2
    exact ⟨h2.1, h2.2.trans h1.2.1⟩
theorem week_V {S : SF} {wan how : Nat} {H : HS} (h : HV H) : HV (weekA S wan how H).1 ∧ (weekA S wan how H).1.n = H.n := by
  have h1 := cb_V h
  have h2 := tak_V (wan := wan) (how := how) h1.1
  have h3 := yel_V (S := S) h2.1 h2.2.1
  have h4 := was_V (S := S) h3.1 h3.2.1
  have h5 := drN_V _ h4.1 (Nat.le_refl _)
  exact ⟨h5.1, h5.2.trans (h4.2.trans (h3.2.2.1.trans (h2.2.2.trans h1.2)))⟩
