/-! PURE: the reference's reading of a part -/
theorem rrunF {m : qaM} {B : Nat → Nat} {L N : Nat} (t : TPR m B L) (h52 : ∀ k : Nat, k < 96 → m 52 k = nI (wtb.getD k 0)) (hN : N < 6) {d : Cf} (hd : stpA B L d = none) : ∀ (n p w a : Nat) (h o : List Nat) (x : qaM) (fuel q0 : Nat), WFc L (p, w, a, h, o) → UM m x N h o (opN h) p q0 → itA B L n (p, w, a, h, o) = some d → L < p + fuel →
    ((okA B L d ∧ ∃ x2, qa_lp (fun s : qaM × Int32 × Int32 => b_X7_eRead_14 s.1 s.2.1 s.2.2) fuel (x, nI w, nI a) = some (nI 1, x2) ∧ UM m x2 N [] (unw 1 d.2.2.2.1 d.2.2.2.2).2 0 (tkE B L d.1) (plK B L d.1))
    ∨ (¬ okA B L d ∧ ∃ x2, qa_lp (fun s : qaM × Int32 × Int32 => b_X7_eRead_14 s.1 s.2.1 s.2.2) fuel (x, nI w, nI a) = some (nI 0, x2) ∧ ∃ h o op e, UM m x2 N h o op e (plK B L d.1))) := by
  have hL := t.2.2.1
  intro n
  induction n with
  | zero =>
    intro p w a h o x fuel q0 wf u hit hf
    have hd2 : (p, w, a, h, o) = d := Option.some.inj hit
    subst hd2
    have hpL : p ≤ L := wf.2.1
    obtain ⟨fu, rfl⟩ : ∃ fu, fuel = fu + 1 := ⟨fuel - 1, by omega⟩
    have hw : w = 0 ∨ w = 1 := by
      have : w ≤ 1 := wf.2.2.1
      omega
    rcases hw with rfl | rfl
    · rcases rstepN t h52 hN wf u with ⟨p2, w2, a2, h2, o2, x2, c1, _⟩ | ⟨c1, c2, x2, c3, c4⟩ | ⟨c1, c2, x2, c3, c4⟩
      · rw [hd] at c1
        cases c1
      · exact Or.inl ⟨c2, x2, by rw [qa_lp, c3], c4⟩
      · exact Or.inr ⟨c2, x2, by rw [qa_lp, c3], c4⟩
    · rcases rstepW t h52 hN wf u with ⟨p2, w2, a2, h2, o2, x2, c1, _⟩ | ⟨c1, x2, c3, c4⟩
      · rw [hd] at c1
        cases c1
      · exact Or.inr ⟨(fun z => absurd z.1 (by omega)), x2, by rw [qa_lp, c3], c4⟩
  | succ n ih =>
    intro p w a h o x fuel q0 wf u hit hf
    have hpL : p ≤ L := wf.2.1
    obtain ⟨fu, rfl⟩ : ∃ fu, fuel = fu + 1 := ⟨fuel - 1, by omega⟩
    have hw : w = 0 ∨ w = 1 := by
      have : w ≤ 1 := wf.2.2.1
      omega
    have hcon : ∀ p2 w2 a2 h2 o2 x2, stpA B L (p, w, a, h, o) = some (p2, w2, a2, h2, o2) → b_X7_eRead_14 x (nI w) (nI a) = some (.inl (x2, nI w2, nI a2)) → UM m x2 N h2 o2 (opN h2) p2 (plK B L p) → WFc L (p2, w2, a2, h2, o2) → p < p2 →
        ((okA B L d ∧ ∃ x2, qa_lp (fun s : qaM × Int32 × Int32 => b_X7_eRead_14 s.1 s.2.1 s.2.2) (fu + 1) (x, nI w, nI a) = some (nI 1, x2) ∧ UM m x2 N [] (unw 1 d.2.2.2.1 d.2.2.2.2).2 0 (tkE B L d.1) (plK B L d.1))
        ∨ (¬ okA B L d ∧ ∃ x2, qa_lp (fun s : qaM × Int32 × Int32 => b_X7_eRead_14 s.1 s.2.1 s.2.2) (fu + 1) (x, nI w, nI a) = some (nI 0, x2) ∧ ∃ h o op e, UM m x2 N h o op e (plK B L d.1))) := by
      intro p2 w2 a2 h2 o2 x2 c1 c2 c3 c4 c5
      rw [itA_s c1] at hit
      rcases ih p2 w2 a2 h2 o2 x2 fu _ c4 c3 hit (by omega) with ⟨e1, y, e2, e3⟩ | ⟨e1, y, e2, e3⟩
      · exact Or.inl ⟨e1, y, by rw [qa_lp, c2]; exact e2, e3⟩
      · exact Or.inr ⟨e1, y, by rw [qa_lp, c2]; exact e2, e3⟩
    have hnon : stpA B L (p, w, a, h, o) = none → False := by
      intro z
      rw [itA, z] at hit
      cases hit
    rcases hw with rfl | rfl
    · rcases rstepN t h52 hN wf u with ⟨p2, w2, a2, h2, o2, x2, c1, c2, c3, c4, c5⟩ | ⟨c1, _⟩ | ⟨c1, _⟩
      · exact hcon _ _ _ _ _ _ c1 c2 c3 c4 c5
      · exact (hnon c1).elim
      · exact (hnon c1).elim
    · rcases rstepW t h52 hN wf u with ⟨p2, w2, a2, h2, o2, x2, c1, c2, c3, c4, c5⟩ | ⟨c1, _⟩
      · exact hcon _ _ _ _ _ _ c1 c2 c3 c4 c5
      · exact (hnon c1).elim
/-- the reference reads a part, from place p, after the codes o -/
theorem rread {m x : qaM} {B : Nat → Nat} {L N p q0 : Nat} {o : List Nat} (t : TPR m B L) (h52 : ∀ k : Nat, k < 96 → m 52 k = nI (wtb.getD k 0)) (hN : N < 6) {d : Cf} (hr : Rch B L (p, 1, 1, [], o) d) (hd : stpA B L d = none) (hp : p ≤ L) (ho : o.length ≤ p) (hc : ∀ t ∈ o, t < 200000) (u1 : r8F N m x) (u2 : x 36 12 = nI N) (u3 : x 36 26 = nI p) (u4 : x 36 27 = nI q0) (u7 : x 36 34 = nI o.length) (u9 : otM x N o) :
    (okA B L d ∧ ∃ x2, f_X7_eRead x = some (nI 1, x2) ∧ UM m x2 N [] (unw 1 d.2.2.2.1 d.2.2.2.2).2 0 (tkE B L d.1) (plK B L d.1))
    ∨ (¬ okA B L d ∧ ∃ x2, f_X7_eRead x = some (nI 0, x2) ∧ ∃ h o op e, UM m x2 N h o op e (plK B L d.1)) := by
  have hL := t.2.2.1
  obtain ⟨n, hn⟩ := hr
  have v2 : UM m (qa_st (qa_st x 36 32 (nI 0)) 36 33 (nI 0)) N [] o (opN []) p q0 := by
    refine ⟨(u1.st36 (by omega)).st36 (by omega), ?_, ?_, ?_, ?_, ?_, ?_, trivial, ?_⟩
    · rw [st_s, up_n (by omega), st_s, up_n (by omega), u2]
    · rw [st_s, up_n (by omega), st_s, up_n (by omega), u3]
    · rw [st_s, up_n (by omega), st_s, up_n (by omega), u4]
    · rw [st_s, up_n (by omega), st_s, up_s]
      rfl
    · rw [st_s, up_s]
      rfl
    · rw [st_s, up_n (by omega), st_s, up_n (by omega), u7]
    · intro i hi
      rw [st_n (by omega), st_n (by omega)]
      exact u9 i hi
  have wf : WFc L (p, 1, 1, [], o) := ⟨by rw [List.length_nil]; omega, hp, by omega, by omega, Nat.zero_le _, (fun t ht => by cases ht), hc⟩
  have hst : f_X7_eRead x = qa_lp (fun s : qaM × Int32 × Int32 => b_X7_eRead_14 s.1 s.2.1 s.2.2) qa_F (qa_st (qa_st x 36 32 (nI 0)) 36 33 (nI 0), nI 1, nI 1) := by
    unfold f_X7_eRead
    simp only [li_0, li_1, li_2, li_3, li_4, li_5, li_6, li_7, li_8, li_9, li_10, li_11, li_12, li_13, li_14, li_15, li_16, li_17, li_18, li_19, li_20, li_30, li_31, li_32, li_33, li_40, li_41, li_42, li_43, li_45, li_48, li_56, li_57, li_59, li_60, li_61, li_64, li_91, li_97, li_99, li_100, li_122, li_150, li_160, li_200, li_201, li_255, li_300, li_303, li_304, li_305, li_306, li_312, li_400, li_500, li_999, li_1003, li_3099, li_99999, li_100000, li_1000000, li_65, li_23, li_neg]
    rw [pu_let, pu_let, lp_X7_eRead_14]
  rw [hst]
  exact rrunF t h52 hN hd n p 1 1 [] o _ qa_F q0 wf v2 hn (by unfold qa_F; omega)
