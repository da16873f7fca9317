/-! PURE: pileUp: lists, moved and sorted -/
/-- one moved up to a place above -/
def mvA (L : List Nat) (k q : Nat) : List Nat := insA (rmA L k) q (L.getD k 0)
theorem insA_perm (P : List Nat) (k i : Nat) : (insA P k i).Perm (i :: P) := by
  unfold insA
  refine List.perm_middle.trans ?_
  rw [List.take_append_drop]
theorem mvA_perm {L : List Nat} {k : Nat} (q : Nat) (hk : k < L.length) : (mvA L k q).Perm L := (insA_perm _ _ _).trans (rmA_split hk).symm
theorem mvA_len {L : List Nat} {k : Nat} (q : Nat) (hk : k < L.length) : (mvA L k q).length = L.length := (mvA_perm q hk).length_eq
theorem mvA_get {L : List Nat} {k q j : Nat} (hk : k < L.length) (hq : q ≤ k) : (mvA L k q).getD j 0 = if j < q then L.getD j 0 else if j = q then L.getD k 0 else if j ≤ k then L.getD (j - 1) 0 else L.getD j 0 := by
  have hl : q ≤ (rmA L k).length := by
    rw [rmA_len hk]
    omega
  unfold mvA
  rcases Nat.lt_trichotomy j q with h | h | h
  · rw [if_pos h, insA_lt hl h, rmA_lt hk (by omega)]
  · rw [if_neg (by omega), if_pos h, h, insA_eq hl]
  · rw [if_neg (by omega), if_neg (by omega), insA_gt hl h]
    by_cases z : j ≤ k
    · rw [if_pos z, rmA_lt hk (by omega)]
    · rw [if_neg z, rmA_ge hk (by omega), show j - 1 + 1 = j by omega]
theorem pw_uniq {R : Nat → Nat → Prop} (as : ∀ x y, R x y → ¬ R y x) : ∀ L1 L2 : List Nat, L1.Perm L2 → L1.Pairwise R → L2.Pairwise R → L1 = L2 := by
  intro L1
  induction L1 with
  | nil =>
    intro L2 h _ _
    exact (List.nil_perm.mp h).symm
  | cons a t1 ih =>
    intro L2 h h1 h2
    cases L2 with
    | nil => exact absurd h.length_eq (by simp)
    | cons b t2 =>
      rw [List.pairwise_cons] at h1 h2
      by_cases q : a = b
      · subst q
        rw [ih t2 ((List.perm_cons a).mp h) h1.2 h2.2]
      · have ha : a ∈ t2 := by
          rcases List.mem_cons.mp (h.mem_iff.mp List.mem_cons_self) with z | z
          · exact absurd z q
          · exact z
        have hb : b ∈ t1 := by
          rcases List.mem_cons.mp (h.mem_iff.mpr List.mem_cons_self) with z | z
          · exact absurd z.symm q
          · exact z
        exact absurd (h2.1 a ha) (as _ _ (h1.1 b hb))
/-- of like marks, those that lay above lie above -/
def stR (mk : Nat → Int) (pl : Nat → Nat) (x y : Nat) : Prop := mk x = mk y → pl x < pl y
theorem mvA_st {mk : Nat → Int} {pl : Nat → Nat} {L : List Nat} {k q : Nat} (hk : k < L.length) (hq : q ≤ k) (h : L.Pairwise (stR mk pl)) (hm : ∀ j : Nat, q ≤ j → j < k → mk (L.getD k 0) < mk (L.getD j 0)) : (mvA L k q).Pairwise (stR mk pl) := by
  obtain ⟨i, hi⟩ : ∃ i, i = L.getD k 0 := ⟨_, rfl⟩
  have e1 : L = L.take q ++ ((L.take k).drop q ++ i :: L.drop (k + 1)) := by
    have h1 : L = L.take k ++ i :: L.drop (k + 1) := by
      rw [hi, List.getD_eq_getElem?_getD, List.getElem?_eq_getElem hk, Option.getD_some, List.getElem_cons_drop, List.take_append_drop]
    have h2 : L.take k = L.take q ++ (L.take k).drop q := by
      have h3 : (L.take k).take q = L.take q := by rw [List.take_take, Nat.min_eq_left hq]
      rw [← h3, List.take_append_drop]
    rw [← List.append_assoc, ← h2]
    exact h1
  have e2 : mvA L k q = L.take q ++ i :: ((L.take k).drop q ++ L.drop (k + 1)) := by
    have hl : q ≤ (L.take k).length := by
      rw [List.length_take]
      omega
    unfold mvA insA rmA
    rw [List.take_append_of_le_length hl, List.drop_append_of_le_length hl, List.take_take, Nat.min_eq_left hq, hi]
  have hM : ∀ x ∈ (L.take k).drop q, mk i < mk x := by
    intro x hx
    obtain ⟨j, hj, e⟩ := List.getElem_of_mem hx
    rw [List.length_drop, List.length_take] at hj
    have := hm (q + j) (by omega) (by omega)
    rw [List.getD_eq_getElem?_getD, List.getD_eq_getElem?_getD, List.getElem?_eq_getElem (i := q + j) (by omega)] at this
    rw [List.getElem_drop, List.getElem_take] at e
    rw [hi, List.getD_eq_getElem?_getD, ← e]
    exact this
  rw [e1] at h
  rw [e2]
  rw [List.pairwise_append, List.pairwise_append, List.pairwise_cons] at h
  obtain ⟨h1, ⟨h2, ⟨h3, h4⟩, h5⟩, h6⟩ := h
  rw [List.pairwise_append, List.pairwise_cons, List.pairwise_append]
  refine ⟨h1, ⟨fun b hb => ?_, h2, h4, fun a ha b hb => h5 a ha b (List.mem_cons_of_mem _ hb)⟩, fun a ha b hb => h6 a ha b ?_⟩
  · rcases List.mem_append.mp hb with z | z
    · exact fun e => absurd e (by have := hM b z; omega)
    · exact h3 b z
  · rcases List.mem_cons.mp hb with z | z
    · rw [z]
      exact List.mem_append_right _ List.mem_cons_self
    · rcases List.mem_append.mp z with w | w
      · exact List.mem_append_left _ w
      · exact List.mem_append_right _ (List.mem_cons_of_mem _ w)
/-- sorted, as far as told -/
def srN (mk : Nat → Int) (L : List Nat) (n : Nat) : Prop := ∀ a b : Nat, a < b → b < n → mk (L.getD a 0) ≤ mk (L.getD b 0)
-- the class's sorting
def plIns (mk : Nat → Int) (L : List Nat) (i : Nat) : Nat → Nat
  | 0 => 0
  | p + 1 => if mk i < mk (L.getD p 0) then plIns mk L i p else p + 1
theorem plIns_le (mk : Nat → Int) (L : List Nat) (i p : Nat) : plIns mk L i p ≤ p := by
  induction p with
  | zero => exact Nat.le_refl _
  | succ p ih =>
    unfold plIns
    split <;> omega
theorem plIns_ge (mk : Nat → Int) (L : List Nat) (i p : Nat) : ∀ j : Nat, plIns mk L i p ≤ j → j < p → mk i < mk (L.getD j 0) := by
  induction p with
  | zero => intro j _ h; omega
  | succ p ih =>
    intro j h1 h2
    rw [plIns] at h1
    by_cases q : mk i < mk (L.getD p 0)
    · rw [if_pos q] at h1
      by_cases z : j = p
      · rw [z]
        exact q
      · exact ih j h1 (by omega)
    · rw [if_neg q] at h1
      omega
theorem plIns_b (mk : Nat → Int) (L : List Nat) (i p : Nat) : 0 < plIns mk L i p → mk (L.getD (plIns mk L i p - 1) 0) ≤ mk i := by
  induction p with
  | zero => intro h; exact absurd h (Nat.lt_irrefl 0)
  | succ p ih =>
    rw [plIns]
    by_cases q : mk i < mk (L.getD p 0)
    · rw [if_pos q]
      exact ih
    · rw [if_neg q]
      intro _
      rw [show p + 1 - 1 = p by omega]
      omega
def isQ (mk : Nat → Int) (L : List Nat) (k : Nat) : Nat := plIns mk (rmA L k) (L.getD k 0) k
def isS (mk : Nat → Int) (L : List Nat) (k : Nat) : List Nat := mvA L k (isQ mk L k)
theorem isQ_le (mk : Nat → Int) (L : List Nat) (k : Nat) : isQ mk L k ≤ k := plIns_le _ _ _ _
theorem isQ_ge {mk : Nat → Int} {L : List Nat} {k j : Nat} (hk : k < L.length) (h1 : isQ mk L k ≤ j) (h2 : j < k) : mk (L.getD k 0) < mk (L.getD j 0) := by
  have := plIns_ge mk (rmA L k) (L.getD k 0) k j h1 h2
  rw [rmA_lt hk h2] at this
  exact this
theorem isQ_b {mk : Nat → Int} {L : List Nat} {k : Nat} (hk : k < L.length) (h : 0 < isQ mk L k) : mk (L.getD (isQ mk L k - 1) 0) ≤ mk (L.getD k 0) := by
  have hle := isQ_le mk L k
  have h2 : mk ((rmA L k).getD (isQ mk L k - 1) 0) ≤ mk (L.getD k 0) := plIns_b mk (rmA L k) (L.getD k 0) k h
  rw [rmA_lt hk (by omega)] at h2
  exact h2
theorem isS_sr {mk : Nat → Int} {L : List Nat} {k : Nat} (hk : k < L.length) (h : srN mk L k) : srN mk (isS mk L k) (k + 1) := by
  have hq := isQ_le mk L k
  intro a b hab hb
  unfold isS
  rw [mvA_get hk hq, mvA_get hk hq]
  have hge : ∀ j : Nat, isQ mk L k ≤ j → j < k → mk (L.getD k 0) < mk (L.getD j 0) := fun j h1 h2 => isQ_ge hk h1 h2
  obtain ⟨Q, hQ⟩ : ∃ Q, Q = isQ mk L k := ⟨_, rfl⟩
  have hbd : 0 < Q → mk (L.getD (Q - 1) 0) ≤ mk (L.getD k 0) := fun z => by
    rw [hQ] at z ⊢
    exact isQ_b hk z
  rw [← hQ] at hge hq ⊢
  rcases Nat.lt_trichotomy a Q with p | p | p
  · rw [if_pos p]
    rcases Nat.lt_trichotomy b Q with r | r | r
    · rw [if_pos r]
      exact h a b hab (by omega)
    · rw [if_neg (by omega), if_pos r]
      have h1 := hbd (by omega)
      by_cases z : a = Q - 1
      · rw [z]
        exact h1
      · have := h a (Q - 1) (by omega) (by omega)
        omega
    · rw [if_neg (by omega), if_neg (by omega), if_pos (by omega)]
      exact h a (b - 1) (by omega) (by omega)
  · rw [if_neg (by omega), if_pos p, if_neg (by omega), if_neg (by omega), if_pos (by omega)]
    have := hge (b - 1) (by omega) (by omega)
    omega
  · rw [if_neg (by omega), if_neg (by omega), if_pos (by omega), if_neg (by omega), if_neg (by omega), if_pos (by omega)]
    exact h (a - 1) (b - 1) (by omega) (by omega)
/-- what sorting keeps -/
def kpP (mk : Nat → Int) (P L : List Nat) : Prop := L.Perm P ∧ L.Pairwise (stR mk (plA P))
def isA (mk : Nat → Int) (P : List Nat) (j : Nat) : List Nat := itN (fun j L => isS mk L (j + 1)) j P
theorem isA_ok {mk : Nat → Int} {P : List Nat} (h0 : P.Pairwise (stR mk (plA P))) : ∀ j : Nat, j ≤ P.length - 1 → kpP mk P (isA mk P j) ∧ srN mk (isA mk P j) (j + 1) := by
  intro j
  induction j with
  | zero => exact fun _ => ⟨⟨List.Perm.refl _, h0⟩, fun a b h1 h2 => by omega⟩
  | succ j ih =>
    intro hj
    obtain ⟨⟨i1, i2⟩, i3⟩ := ih (by omega)
    have hl : j + 1 < (isA mk P j).length := by
      rw [i1.length_eq]
      omega
    have e : isA mk P (j + 1) = isS mk (isA mk P j) (j + 1) := rfl
    rw [e]
    exact ⟨⟨(mvA_perm _ hl).trans i1, mvA_st hl (isQ_le _ _ _) i2 (fun a h1 h2 => isQ_ge hl h1 h2)⟩, isS_sr hl i3⟩
-- the reference's sorting
def bbS (mk : Nat → Int) (L : List Nat) (p : Nat) : List Nat := if mk (L.getD p 0) < mk (L.getD (p - 1) 0) then mvA L p (p - 1) else L
def bbD (mk : Nat → Int) : Nat → List Nat → List Nat
  | 0, L => L
  | p + 1, L => bbD mk p (bbS mk L (p + 1))
theorem bbS_kp {mk : Nat → Int} {P L : List Nat} {p : Nat} (h : kpP mk P L) (hp : p < L.length) (h0 : 0 < p) : kpP mk P (bbS mk L p) := by
  unfold bbS
  split
  · rename_i q
    refine ⟨(mvA_perm _ hp).trans h.1, mvA_st hp (by omega) h.2 (fun j h1 h2 => ?_)⟩
    rw [show j = p - 1 by omega]
    exact q
  · exact h
theorem bbS_len {mk : Nat → Int} {L : List Nat} {p : Nat} (hp : p < L.length) : (bbS mk L p).length = L.length := by
  unfold bbS
  split
  · exact mvA_len _ hp
  · rfl
/-- the first n are the least -/
def ivN (mk : Nat → Int) (L : List Nat) (n : Nat) : Prop := ∀ a b : Nat, a < n → a < b → b < L.length → mk (L.getD a 0) ≤ mk (L.getD b 0)
def mnP (mk : Nat → Int) (L : List Nat) (p : Nat) : Prop := ∀ b : Nat, p ≤ b → b < L.length → mk (L.getD p 0) ≤ mk (L.getD b 0)
theorem bbS_iv {mk : Nat → Int} {L : List Nat} {p n : Nat} (hp : p < L.length) (h0 : 0 < p) (hi : ivN mk L n) (hm : mnP mk L (max p n)) : ivN mk (bbS mk L p) n ∧ mnP mk (bbS mk L p) (max (p - 1) n) := by
  by_cases q : mk (L.getD p 0) < mk (L.getD (p - 1) 0)
  · have e : bbS mk L p = mvA L p (p - 1) := if_pos q
    have hpn : n ≤ p - 1 := by
      by_cases z : p - 1 < n
      · have := hi (p - 1) p z (by omega) hp
        omega
      · omega
    rw [Nat.max_eq_left (by omega)] at hm
    rw [Nat.max_eq_left hpn, e]
    have hg : ∀ j : Nat, (mvA L p (p - 1)).getD j 0 = if j < p - 1 then L.getD j 0 else if j = p - 1 then L.getD p 0 else if j ≤ p then L.getD (j - 1) 0 else L.getD j 0 := fun j => mvA_get hp (by omega)
    refine ⟨fun a b ha hab hb => ?_, fun b hb1 hb2 => ?_⟩
    · rw [mvA_len _ hp] at hb
      rw [hg a, hg b, if_pos (by omega)]
      by_cases z1 : b < p - 1
      · rw [if_pos z1]
        exact hi a b ha hab hb
      · rw [if_neg z1]
        by_cases z2 : b = p - 1
        · rw [if_pos z2]
          exact hi a p ha (by omega) hp
        · rw [if_neg z2]
          by_cases z3 : b ≤ p
          · rw [if_pos z3]
            exact hi a (b - 1) ha (by omega) (by omega)
          · rw [if_neg z3]
            exact hi a b ha hab hb
    · rw [mvA_len _ hp] at hb2
      rw [hg (p - 1), hg b, if_neg (by omega), if_pos rfl, if_neg (by omega)]
      by_cases z2 : b = p - 1
      · rw [if_pos z2]
        exact Int.le_refl _
      · rw [if_neg z2]
        by_cases z3 : b ≤ p
        · rw [if_pos z3, show b - 1 = p - 1 by omega]
          omega
        · rw [if_neg z3]
          exact hm b (by omega) hb2
  · have e : bbS mk L p = L := if_neg q
    rw [e]
    refine ⟨hi, ?_⟩
    by_cases z : p ≤ n
    · rw [Nat.max_eq_right z] at hm
      rw [Nat.max_eq_right (by omega)]
      exact hm
    · rw [Nat.max_eq_left (by omega)] at hm
      rw [Nat.max_eq_left (by omega)]
      intro b h1 h2
      by_cases w : b = p - 1
      · rw [w]
        exact Int.le_refl _
      · have := hm b (by omega) h2
        omega
theorem bbD_ok {mk : Nat → Int} {P : List Nat} {n : Nat} : ∀ (p : Nat) (L : List Nat), kpP mk P L → p < L.length → ivN mk L n → mnP mk L (max p n) → kpP mk P (bbD mk p L) ∧ ivN mk (bbD mk p L) n ∧ mnP mk (bbD mk p L) n ∧ (bbD mk p L).length = L.length := by
  intro p
  induction p with
  | zero =>
    intro L h1 h2 h3 h4
    rw [Nat.max_eq_right (Nat.zero_le _)] at h4
    exact ⟨h1, h3, h4, rfl⟩
  | succ p ih =>
    intro L h1 h2 h3 h4
    have h5 := bbS_iv h2 (by omega) h3 h4
    have hl := bbS_len (mk := mk) h2
    have h6 := ih (bbS mk L (p + 1)) (bbS_kp h1 h2 (by omega)) (by rw [hl]; omega) h5.1 h5.2
    rw [hl] at h6
    exact h6
def bbA (mk : Nat → Int) (P : List Nat) (j : Nat) : List Nat := itN (fun _ L => bbD mk (P.length - 1) L) j P
theorem bbA_ok {mk : Nat → Int} {P : List Nat} (h0 : P.Pairwise (stR mk (plA P))) : ∀ j : Nat, j ≤ P.length - 1 → kpP mk P (bbA mk P j) ∧ ivN mk (bbA mk P j) j ∧ (bbA mk P j).length = P.length := by
  intro j
  induction j with
  | zero => exact fun _ => ⟨⟨List.Perm.refl _, h0⟩, fun a b h1 h2 => by omega, rfl⟩
  | succ j ih =>
    intro hj
    obtain ⟨i1, i2, i3⟩ := ih (by omega)
    have e : bbA mk P (j + 1) = bbD mk (P.length - 1) (bbA mk P j) := rfl
    have h1 := bbD_ok (n := j) (P.length - 1) (bbA mk P j) i1 (by rw [i3]; omega) i2 (by
      rw [Nat.max_eq_left (by omega)]
      intro b hb1 hb2
      rw [i3] at hb2
      rw [show b = P.length - 1 by omega]
      exact Int.le_refl _)
    rw [e]
    refine ⟨h1.1, fun a b ha hab hb => ?_, h1.2.2.2.trans i3⟩
    by_cases z : a = j
    · rw [z]
      exact h1.2.2.1 b (by omega) hb
    · exact h1.2.1 a b (by omega) hab hb
theorem nd_st {mk : Nat → Int} {P : List Nat} (hd : P.Nodup) : P.Pairwise (stR mk (plA P)) := by
  have hp : ∀ (i : Nat) (hi : i < P.length), plA P P[i] = i := by
    intro i hi
    unfold plA
    rw [List.findIdx_eq hi]
    refine ⟨by simp, fun j hj => ?_⟩
    have := (List.pairwise_iff_getElem.mp hd) j i (by omega) hi hj
    simpa using this
  rw [List.pairwise_iff_getElem]
  intro i j hi hj hij _
  rw [hp i hi, hp j hj]
  exact hij
theorem sr_pw {mk : Nat → Int} {P L : List Nat} (h : kpP mk P L) (hs : srN mk L L.length) : L.Pairwise (fun x y => mk x < mk y ∨ (mk x = mk y ∧ plA P x < plA P y)) := by
  have h2 := h.2
  rw [List.pairwise_iff_getElem] at h2 ⊢
  intro i j hi hj hij
  have h3 := hs i j hij hj
  rw [List.getD_eq_getElem?_getD, List.getD_eq_getElem?_getD, List.getElem?_eq_getElem hi, List.getElem?_eq_getElem hj, Option.getD_some, Option.getD_some] at h3
  by_cases q : mk L[i] = mk L[j]
  · exact Or.inr ⟨q, h2 i j hi hj hij q⟩
  · exact Or.inl (by omega)
theorem sorts_eq {mk : Nat → Int} {P : List Nat} (hd : P.Nodup) : isA mk P (P.length - 1) = bbA mk P (P.length - 1) := by
  have h0 := nd_st (mk := mk) hd
  have h1 := isA_ok h0 (P.length - 1) (Nat.le_refl _)
  have h2 := bbA_ok h0 (P.length - 1) (Nat.le_refl _)
  refine pw_uniq (R := fun x y => mk x < mk y ∨ (mk x = mk y ∧ plA P x < plA P y)) (fun x y a b => by omega) _ _ (h1.1.1.trans h2.1.1.symm) (sr_pw h1.1 (fun a b hab hb => ?_)) (sr_pw h2.1 (fun a b hab hb => ?_))
  · rw [h1.1.1.length_eq] at hb
    exact h1.2 a b hab (by omega)
  · rw [h2.2.2] at hb
    exact h2.2.1 a b (by omega) hab (by rw [h2.2.2]; exact hb)
