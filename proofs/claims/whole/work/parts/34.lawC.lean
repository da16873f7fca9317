/-! THE REFERENCE'S CONSTRUCTOR -/
theorem W.mono {p : Program} {l : Launch} {e : Env} {R : Room} {s : State} {m : MethodId} {args : Array Value} {below : List Frame} {meth : Method} {c : Code} {H : Heap} {locs : List Loc} {cells slots : Nat} {Q Q' : State → Prop} {g : JFrame} (h : ∀ t, Q t → Q' t) (k : W p l e R s m args below meth c H locs cells slots Q g) : W p l e R s m args below meth c H locs cells slots Q' g := by
  intro T hT X
  obtain ⟨t, a, b⟩ := k T hT X
  exact ⟨t, a, h t b⟩
/-- the world, whole, apart, by its addresses -/
theorem qa_injD {Y : qaY} {A : Nat → Prop} {m : qaM} (h : va_D A (qa_w Y qaSh m)) : qa_inj Y ∧ ∀ i : Nat, i < 60 → A (Y.2.2.1 i) := by
  have at' : ∀ i : Nat, i < 60 → ∃ e : va_E, (qa_w Y qaSh m)[i]? = some (Y.2.2.1 i, e) := by
    intro i hi
    have hl : i < qaSh.length := by rw [qa_len]; exact hi
    exact ⟨_, qa_w_at (List.getElem?_eq_getElem hl)⟩
  refine ⟨fun i j hi hj e => ?_, fun i hi => ?_⟩
  · obtain ⟨x, hx⟩ := at' i hi
    obtain ⟨y, hy⟩ := at' j hj
    exact h.1 i j _ _ hx hy e
  · obtain ⟨x, hx⟩ := at' i hi
    exact h.2 i _ hx
theorem qa_l36 (Y0 : qaY) (m : qaM) : (qa_w Y0 qaS36 m).length = 36 := by rw [qa_w_len]; decide +kernel
set_option maxRecDepth 100000 in
set_option maxHeartbeats 4000000 in
theorem cm_X7 (l : Launch) (Y0 : qaY) (h0 : Nat) (m1 : qaM) (hf : f_X7_init qa_m0 = some m1) : ∀ sz : Nat, Met l yX7_init (.code yX7_init cX7_init 2 none :: qaWL) (qaRm 6 23 2338) (va_Pc [.ref h0] (fun U => qaWU Y0.1 Y0.2.1 (qa_w Y0 qaS36 qa_m0 ++ [(h0, .inr (7, qa_mo))]) sz U ∧ qa_E Y0 (va_A (qa_w Y0 qaS36 qa_m0 ++ [(h0, .inr (7, qa_mo))]) sz) U U.heap))
    (va_Qv (fun _ : qaY => True) (fun Y t => (Y.1 = Y0.1 ∧ Y.2.1 = Y0.2.1 ∧ Y.2.2.2 = Y0.2.2.2 ∧ (∀ i : Nat, i < 36 → Y.2.2.1 i = Y0.2.2.1 i) ∧ Y.2.2.1 36 = h0) ∧ va_P Y.1 vwCl (qa_w Y qaSh m1) t.heap ∧ va_D (va_A (qa_w Y0 qaS36 qa_m0 ++ [(h0, .inr (7, qa_mo))]) sz) (qa_w Y qaSh m1)) (va_A (qa_w Y0 qaS36 qa_m0 ++ [(h0, .inr (7, qa_mo))]) sz)) 23 2338 (va_A (qa_w Y0 qaS36 qa_m0 ++ [(h0, .inr (7, qa_mo))]) sz) := by
  intro sz
  refine Met.ofW (cc := cX7_init) (maxL := 2) (ret := none) (by decide +kernel) rfl ?_
  intro p e s mid args below meth c s₁ B hml hv
  obtain ⟨rfl, ⟨hsz, hP, hK, hD0, hN⟩, hE⟩ := hv
  have hts := atoms_spec (ws := .code yX7_init cX7_init 2 none :: qaWL) B.pre
  have hin : meth.name = "<init>" := (name_of_methodNamed B.named B.method).1
  subst hsz
  have hl := lv_entry [.ref h0] (n := 2) (Nat.le_of_ble_eq_true rfl)
  rw [lg_entry_eq]
  generalize hA : va_A (qa_w Y0 qaS36 qa_m0 ++ [(h0, .inr (7, qa_mo))]) s.heap.size = A at hE ⊢
  have hlast : (qa_w Y0 qaS36 qa_m0 ++ [(h0, .inr (7, qa_mo))])[36]? = some (h0, .inr (7, qa_mo)) := by
    rw [List.getElem?_append_right (by rw [qa_l36]; exact Nat.le_refl _), qa_l36]
    rfl
  have hfirst : ∀ (k : Nat) (q : Nat × va_E), (qa_w Y0 qaS36 qa_m0)[k]? = some q → (qa_w Y0 qaS36 qa_m0 ++ [(h0, .inr (7, qa_mo))])[k]? = some q ∧ k < 36 := by
    intro k q hq
    have hk : k < (qa_w Y0 qaS36 qa_m0).length := (List.getElem?_eq_some_iff.mp hq).1
    rw [List.getElem?_append_left hk]
    exact ⟨hq, by rw [qa_l36] at hk; exact hk⟩
  have hAh : A h0 := by rw [← hA]; exact va_A.in hlast
  have hAn : ∀ q : Nat, s.heap.size ≤ q → A q := fun q hq => by rw [← hA]; exact Or.inr hq
  have hPs : va_P Y0.1 vwCl [(h0, .inr (7, qa_mo))] s.heap := by
    intro k q hq
    have hk : k < 1 := (List.getElem?_eq_some_iff.mp hq).1
    have hk0 : k = 0 := by omega
    subst hk0
    cases hq
    exact hP 36 _ hlast
  have hP36 : va_P Y0.1 vwCl (qa_w Y0 qaS36 qa_m0) s.heap := fun k q hq => hP k q (hfirst k q hq).1
  have hDs : va_D (va_A [(h0, .inr (7, qa_mo))] s.heap.size) [(h0, .inr (7, qa_mo))] := by
    refine ⟨fun i j a b ha hb _ => ?_, fun k q hq => va_A.in hq⟩
    have h1 : i < 1 := (List.getElem?_eq_some_iff.mp ha).1
    have h2 : j < 1 := (List.getElem?_eq_some_iff.mp hb).1
    omega
  have hC1 : QWC (p, l, e, qaRm 6 23 2338, s, mid, ([.ref h0] : List Value).toArray, below, meth, c, MQ below (va_Qv (fun _ : qaY => True) (fun Y t => (Y.1 = Y0.1 ∧ Y.2.1 = Y0.2.1 ∧ Y.2.2.2 = Y0.2.2.2 ∧ (∀ i : Nat, i < 36 → Y.2.2.1 i = Y0.2.2.1 i) ∧ Y.2.2.1 36 = h0) ∧ va_P Y.1 vwCl (qa_w Y qaSh m1) t.heap ∧ va_D A (qa_w Y qaSh m1)) A) ([.ref h0] : List Value).toArray s 23 2338 A, va_A [(h0, .inr (7, qa_mo))] s.heap.size, 0, 0) l Y0.1 Y0.2.1 cX7_init RX7 2 6 23 2338 :=
    ⟨⟨rfl, B.exec, B.bytes, B.notSynchronized, hml, findClass_of_methodNamed B.named⟩, fun w hw => hts w (List.mem_cons_of_mem _ hw), hK, hN, fun q hq => Or.inr hq, Nat.le_refl _, Nat.le_refl _, Nat.le_refl _, Nat.le_refl _⟩
  refine cm_alloc hC1 hin h0 (fun q1 q2 q3 q4 q5 q6 q7 q8 q9 q10 q11 q12 q13 q14 q15 q16 q17 q18 q19 q20 q21 q22 q23 => ?_) s.heap [] _ hPs hDs va_S.rf hl
  intro H locs ls hP24 hD24 hS24 hl2
  have hnot : ∀ (k : Nat) (q : Nat × va_E), (qa_w Y0 qaS36 qa_m0)[k]? = some q → q.1 < s.heap.size ∧ ¬ va_A [(h0, .inr (7, qa_mo))] s.heap.size q.1 := by
    intro k q hq
    have hlt : q.1 < s.heap.size := (hP36 k q hq).lt
    refine ⟨hlt, fun h => ?_⟩
    rcases h with ⟨j, x, hj⟩ | h
    · have hj1 : j < 1 := (List.getElem?_eq_some_iff.mp hj).1
      have hj0 : j = 0 := by omega
      subst hj0
      have hqh : h0 = q.1 := (Prod.mk.inj (Option.some.inj hj)).1
      have := hD0.1 k 36 q _ (hfirst k q hq).1 hlast hqh.symm
      have := (hfirst k q hq).2
      omega
    · omega
  have hP36' : va_P Y0.1 vwCl (qa_w Y0 qaS36 qa_m0) H := hP36.kept (fun k q hq => hS24.2.1 q.1 (hnot k q hq).1 (hnot k q hq).2)
  have hPall : va_P Y0.1 vwCl (qa_w (qa_Y2 Y0 h0 q1 q2 q3 q4 q5 q6 q7 q8 q9 q10 q11 q12 q13 q14 q15 q16 q17 q18 q19 q20 q21 q22 q23) qaSh qa_m0) H := by
    rw [qa_Y2_w]
    exact hP36'.app hP24
  have hsub : ∀ q : Nat, va_A [(h0, .inr (7, qa_mo))] s.heap.size q → A q := by
    rintro q (⟨j, x, hj⟩ | h)
    · have hj1 : j < 1 := (List.getElem?_eq_some_iff.mp hj).1
      have hj0 : j = 0 := by omega
      subst hj0
      have hqh : h0 = q := (Prod.mk.inj (Option.some.inj hj)).1
      rw [← hqh]
      exact hAh
    · exact hAn q h
  have hDall : va_D A (qa_w (qa_Y2 Y0 h0 q1 q2 q3 q4 q5 q6 q7 q8 q9 q10 q11 q12 q13 q14 q15 q16 q17 q18 q19 q20 q21 q22 q23) qaSh qa_m0) := by
    rw [qa_Y2_w]
    refine va_D.app ⟨fun i j a b ha hb hab => hD0.1 i j a b (hfirst i a ha).1 (hfirst j b hb).1 hab, fun k q hq => by rw [← hA]; exact va_A.in (hfirst k q hq).1⟩ (hD24.weaken (fun k q _ h => hsub q.1 h)) (fun i j x y hx hy hxy => ?_)
    exact (hnot i x hx).2 (by rw [hxy]; exact hD24.2 j y hy)
  obtain ⟨hinj, hAi⟩ := qa_injD hDall
  have hSb : va_S A s.heap H locs := ⟨hS24.1, fun q h1 h2 => hS24.2.1 q h1 (fun z => h2 (hsub q z)), fun q hq => hsub _ (hS24.2.2 q hq)⟩
  refine W.mono (Q := MQ below (va_Qv (fun _ : Unit => True) (fun _ t => va_P (qa_Y2 Y0 h0 q1 q2 q3 q4 q5 q6 q7 q8 q9 q10 q11 q12 q13 q14 q15 q16 q17 q18 q19 q20 q21 q22 q23).1 vwCl (qa_w (qa_Y2 Y0 h0 q1 q2 q3 q4 q5 q6 q7 q8 q9 q10 q11 q12 q13 q14 q15 q16 q17 q18 q19 q20 q21 q22 q23) qaSh m1) t.heap) A) ([.ref h0] : List Value).toArray s 23 2338 A) ?_ ?_
  · rintro t ⟨o, h1, h2, ⟨⟨u, hv, -, hPt⟩, hF⟩, hL⟩
    exact ⟨o, h1, h2, ⟨⟨qa_Y2 Y0 h0 q1 q2 q3 q4 q5 q6 q7 q8 q9 q10 q11 q12 q13 q14 q15 q16 q17 q18 q19 q20 q21 q22 q23, hv, trivial, ⟨rfl, rfl, rfl, fun i hi => if_pos hi, rfl⟩, hPt, qa_D hinj hAi⟩, hF⟩, hL⟩
  · exact c_X7_init (X := (p, l, e, qaRm 6 23 2338, s, mid, ([.ref h0] : List Value).toArray, below, meth, c, _, A, 23, 2338)) (Y := qa_Y2 Y0 h0 q1 q2 q3 q4 q5 q6 q7 q8 q9 q10 q11 q12 q13 q14 q15 q16 q17 q18 q19 q20 q21 q22 q23)
      ⟨⟨rfl, B.exec, B.bytes, B.notSynchronized, hml, findClass_of_methodNamed B.named⟩, fun w hw => hts w (List.mem_cons_of_mem _ hw), hK, hE, hinj, hAi, hAn, Nat.le_refl _, Nat.le_refl _, Nat.le_refl _, Nat.le_refl _⟩
      ⟨B.returns, rfl⟩ hf H locs ls hPall hSb hl2
