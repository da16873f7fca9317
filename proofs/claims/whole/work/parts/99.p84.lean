/-! PURE: the class's Not, and the whole reading -/
theorem kNot {m : qaM} {B : Nat → Nat} {L N p a : Nat} {σ o : List Nat} {x : qaM} {rec : Nat → qaM → Int32 → Option (Int32 × qaM)} {ok : Nat → Nat → Prop} (t : TPb m B L) (hm : m 1 0 = nI N) (hN : N < 6) (R : RDk m B L N rec ok) (hok2 : opN σ < 5 → ok 2 (opN σ + 1)) (hok3 : ok 3 (opN σ)) (hop : opN σ ≤ 5) (hpre : preT 2 (tknd B L p) a σ) (c : C6 N m x) (kx : tkC x B L p) (u : ouC x N o) (hp : p ≤ L) (hpo : o.length ≤ p) : RSc m B L N 2 p a σ o (f_X4_readsNot rec x (nI (opN σ))) := by
  have hL := t.2.2.1
  have hkc := tknd_c B L p
  have ha : a = 1 := hpre.2.2.2.2.2.1 (by omega)
  have htr : trk 4 σ := hpre.2.2.1 rfl
  unfold f_X4_readsNot
  simp only [li_0, li_1, li_2, li_3, li_4, li_5, li_6, li_7, li_8, li_9, li_10, li_11, li_12, li_13, li_14, li_15, li_16, li_17, li_18, li_19, li_20, li_30, li_31, li_32, li_33, li_40, li_41, li_42, li_43, li_45, li_48, li_56, li_57, li_59, li_60, li_61, li_64, li_91, li_97, li_99, li_100, li_122, li_150, li_160, li_200, li_201, li_255, li_300, li_303, li_304, li_305, li_306, li_312, li_400, li_500, li_999, li_1003, li_3099, li_99999, li_100000, li_1000000, li_65, li_23, li_neg]
  rw [kx.2.2.1]
  by_cases k305 : tknd B L p = 305
  · rw [ic_eq_t k305]
    have hs0 : stpA B L (p, 1, a, σ, o) = (if opN σ = 5 then none else some (tkE B L p, 1, a, 13 :: σ, o)) := by
      rw [stpA_1, if_neg (show ¬ tknd B L p = 2 by omega), if_neg (show ¬ 306 ≤ tknd B L p by omega)]
      by_cases z : opN σ = 5
      · rw [if_pos z, if_pos z]
      · rw [if_neg z, if_neg z, if_pos ⟨k305, ha⟩]
    by_cases o5 : opN σ = 5
    · rw [ic_lt_f (by omega) (by omega)]
      exact ⟨0, x, rfl, c, Or.inr ⟨rfl, ⟨o.length, by omega, u.1⟩, (p, 1, a, σ, o), hp, kx.1, Rch.rf _, by rw [hs0, if_pos o5], fun z => absurd z.1 (by omega)⟩⟩
    · obtain ⟨e1, e2, e3⟩ := tkE_lt (B := B) hp (by omega)
      have hst : stpA B L (p, 1, a, σ, o) = some (tkE B L p, 1, a, 13 :: σ, o) := by rw [hs0, if_neg o5]
      obtain ⟨y, y1, y2, y3, y4⟩ := kgoC t c kx u hp
      have hop2 : opN (13 :: σ) = opN σ + 1 := Nat.add_comm _ _
      obtain ⟨b1, z, z1, z2, z3⟩ := R 2 (tkE B L p) a (13 :: σ) o y (by omega) (by rw [hop2]; exact hok2 (by omega)) ⟨fun z => by omega, fun z => by omega, fun _ => (show rkN 13 < 4 by decide), fun z => by omega, fun z => by omega, fun _ => ha, fun z => by omega⟩ (by omega) y2 y3 y4 e2 (by omega)
      rw [hop2] at z1
      rw [ic_lt_t (by omega) (by omega), y1, Option.bind_some, pu_add, z1, Option.bind_some]
      rcases z3 with ⟨rfl, p3, w3, τ3, q3, a3', j1, j2, j3, j4, j5, j6, j7, j8, j9, j10⟩ | ⟨rfl, j1, d, j2, j3, j4, j5, j6⟩
      · have hlw3 : (o ++ w3).length = o.length + w3.length := List.length_append
        obtain ⟨z4, f5, f6, f7, f8⟩ := kadds 13 z2 hm hN j4 (by omega)
        refine ⟨1, z4, ?_, f6, Or.inl ⟨rfl, p3, w3 ++ [13], τ3, q3, a3', by omega, j2, j3.cg f8, ?_, ?_, ?_, ?_, (Rch.one hst).t j8, ?_, j10⟩⟩
        · show Option.bind (f_X5_adds z (en6 13)) _ = _
          rw [f5, Option.bind_some, qa_bl1, pu_ck]
        · rw [← List.append_assoc]
          exact f7
        · rw [List.length_append]
          show w3.length + 1 + p ≤ p3
          omega
        · intro c hc
          rcases List.mem_append.mp hc with h | h
          · exact j6 c h
          · rw [List.mem_singleton] at h
            rw [h]
            exact Or.inr (Or.inr (by omega))
        · intro h
          rw [htL_app, j7, Option.bind_some]
          rfl
        · refine (show unw 3 τ3 q3 = _ from j9).trans ?_
          show unw 3 (13 :: σ) (o ++ w3) = _
          rw [unw_ge (by decide), List.append_assoc]
          rfl
      · obtain ⟨z4, f5, f6, f7, f8⟩ := kaddsF (v := nM 305) z2 hm hN j1
        refine ⟨0, z4, ?_, f6, Or.inr ⟨rfl, f7, d, j2, (f8 2).trans j3, (Rch.one hst).t j4, j5, j6⟩⟩
        rw [f5, Option.bind_some, qa_bl0, pu_ck]
  rw [ic_eq_f k305 (by omega) (by omega)]
  obtain ⟨b1, z, z1, z2, z3⟩ := R 3 p a σ o x (by omega) hok3 ⟨fun z => by omega, fun z => by omega, fun z => by omega, fun _ => htr.mo (by omega), fun z => by omega, fun z => by omega, fun _ z => k305 z.2⟩ hop c kx u hp hpo
  rw [z1, Option.bind_some]
  rcases z3 with ⟨rfl, p3, w3, τ3, q3, a3', j1, j2, j3, j4, j5, j6, j7, j8, j9, j10⟩ | ⟨rfl, j1⟩
  · have hlw3 : (o ++ w3).length = o.length + w3.length := List.length_append
    have hkc3 := tknd_c B L p3
    have hu5 : unw 5 τ3 q3 = (σ, o ++ w3) := (show unw 5 τ3 q3 = unw 5 σ (o ++ w3) from j9).trans (unw_lt (htr.mo (by omega)))
    rw [if_neg n10]
    show RSc m B L N 2 p a σ o (if z 6 4 = nI 60 then b_X4_readsNot_68 rec z (nI (opN σ)) else if z 6 4 = nI 61 then b_X4_readsNot_68 rec z (nI (opN σ)) else qa_ck (qa_bl (nI 1)) (some (nI 1, z)))
    rw [j3.2.2.1]
    by_cases h60 : tknd B L p3 = 60 ∨ tknd B L p3 = 61
    · have hgo : (if nI (tknd B L p3) = nI 60 then b_X4_readsNot_68 rec z (nI (opN σ)) else if nI (tknd B L p3) = nI 61 then b_X4_readsNot_68 rec z (nI (opN σ)) else qa_ck (qa_bl (nI 1)) (some (nI 1, z))) = b_X4_readsNot_68 rec z (nI (opN σ)) := by
        rcases h60 with w | w
        · rw [ic_eq_t w]
        · rw [ic_eq_f (by omega) (by omega) (by omega), ic_eq_t w]
      have hv : sgN (tknd B L p3) ≠ 0 ∧ rkN (sgN (tknd B L p3)) = 4 ∧ tknd B L p3 ≠ 41 ∧ en6 (sgN (tknd B L p3)) = nM (tknd B L p3) ∧ (14 ≤ sgN (tknd B L p3) ∧ sgN (tknd B L p3) ≤ 15) := by
        rcases h60 with w | w <;> rw [w] <;> exact ⟨by decide, by decide, by decide, by decide, by decide⟩
      obtain ⟨s1, s2, s3, s5, s6⟩ := hv
      have htp : ¬ tp4 (unw 5 τ3 q3).1 = true := by
        rw [hu5]
        cases σ with
        | nil => exact fun z => by cases z
        | cons t s =>
          intro w
          have h1 : rkN t = 4 := of_decide_eq_true w
          have h2 : rkN t < 4 := htr
          omega
      have hst3 : stpA B L (p3, 0, a3', τ3, q3) = some (tkE B L p3, 1, 0, sgN (tknd B L p3) :: σ, o ++ w3) := by
        rw [stpA_0, if_neg s3, if_neg s1, if_pos s2, if_neg htp, hu5]
      obtain ⟨e1, e2, e3⟩ := tkE_lt (B := B) j2 (by omega)
      obtain ⟨y, y1, y2, y3, y4⟩ := kgoC t z2 j3 j4 j2
      have hoc : opC (sgN (tknd B L p3)) = 0 := if_neg (by omega)
      have hop2 : opN (sgN (tknd B L p3) :: σ) = opN σ := by
        show opC _ + opN σ = _
        omega
      obtain ⟨b4, z4, g1, g2, g3⟩ := R 3 (tkE B L p3) 0 (sgN (tknd B L p3) :: σ) (o ++ w3) y (by omega) (by rw [hop2]; exact hok3) ⟨fun z => by omega, fun z => by omega, fun z => by omega, fun _ => (show rkN _ < 5 by omega), fun z => by omega, fun z => by omega, fun _ z => absurd z.1 (by omega)⟩ (by omega) y2 y3 y4 e2 (by omega)
      rw [hop2] at g1
      have hreach := j8.t (Rch.one hst3)
      rw [hgo]
      unfold b_X4_readsNot_68
      rw [j3.2.2.1, pu_let, y1, Option.bind_some, g1, Option.bind_some]
      rcases g3 with ⟨rfl, p4, w4, τ4, q4, a4', i1, i2, i3, i4, i5, i6, i7, i8, i9, i10⟩ | ⟨rfl, i1, d, i2, i3, i4, i5, i6⟩
      · have hlw4 : (o ++ w3 ++ w4).length = o.length + w3.length + w4.length := by rw [List.length_append, List.length_append]
        obtain ⟨z5, f5, f6, f7, f8⟩ := kadds (sgN (tknd B L p3)) g2 hm hN i4 (by omega)
        rw [s5] at f5
        have hu4 : unw 5 τ4 q4 = (sgN (tknd B L p3) :: σ, o ++ w3 ++ w4) := (show unw 5 τ4 q4 = unw 5 (sgN (tknd B L p3) :: σ) (o ++ w3 ++ w4) from i9).trans (if_neg (by omega))
        refine ⟨1, z5, ?_, f6, Or.inl ⟨rfl, p4, w3 ++ (w4 ++ [sgN (tknd B L p3)]), τ4, q4, a4', by omega, i2, i3.cg f8, ?_, ?_, ?_, ?_, hreach.t i8, ?_, ?_⟩⟩
        · show Option.bind (f_X5_adds z4 (nM (tknd B L p3))) _ = _
          rw [f5, Option.bind_some, qa_bl1, pu_ck]
        · rw [← List.append_assoc, ← List.append_assoc]
          exact f7
        · rw [List.length_append, List.length_append]
          show w3.length + (w4.length + 1) + p ≤ p4
          omega
        · intro c hc
          rcases List.mem_append.mp hc with h | h
          · exact j6 c h
          · rcases List.mem_append.mp h with h | h
            · exact i6 c h
            · rw [List.mem_singleton] at h
              rw [h]
              exact Or.inr (Or.inr (by omega))
        · exact htL_3 j7 i7 (by omega)
        · have h34 : unw 3 (sgN (tknd B L p3) :: σ) (o ++ w3 ++ w4) = unw 3 σ (o ++ w3 ++ w4 ++ [sgN (tknd B L p3)]) := unw_ge (by omega)
          show unw 3 τ4 q4 = unw 3 σ _
          rw [unw_of (show 3 ≤ 5 by omega) hu4, h34, List.append_assoc, List.append_assoc]
        · obtain ⟨x1, x2, x3, x4, x5⟩ := i10
          refine ⟨fun z => x1 (by omega), fun z => x2 (by omega), fun _ _ => ?_, fun z => by omega, fun z => by omega⟩
          rw [hu4]
          exact decide_eq_true s2
      · obtain ⟨z5, f5, f6, f7, f8⟩ := kaddsF (v := nM (tknd B L p3)) g2 hm hN i1
        refine ⟨0, z5, ?_, f6, Or.inr ⟨rfl, f7, d, i2, (f8 2).trans i3, hreach.t i4, i5, i6⟩⟩
        show Option.bind (f_X5_adds z4 (nM (tknd B L p3))) _ = _
        rw [f5, Option.bind_some, qa_bl0, pu_ck]
    · rw [ic_eq_f (by omega) (by omega) (by omega), ic_eq_f (by omega) (by omega) (by omega), qa_bl1, pu_ck]
      refine ⟨1, z, rfl, z2, Or.inl ⟨rfl, p3, w3, τ3, q3, a3', by omega, j2, j3, j4, by omega, j6, j7, j8, ?_, ?_⟩⟩
      · exact unw_of2 (show 3 ≤ 5 by omega) j9
      · obtain ⟨x1, x2, x3, x4, x5⟩ := j10
        exact ⟨fun z => x1 (by omega), fun z => x2 (by omega), fun _ z => absurd z h60, fun z => by omega, fun z => by omega⟩
  · rw [if_pos rfl, qa_bl0, pu_ck]
    exact ⟨0, z, rfl, z2, Or.inr ⟨rfl, j1⟩⟩
theorem kRD {m : qaM} {B : Nat → Nat} {L N : Nat} (t : TPb m B L) (hm : m 1 0 = nI N) (hN : N < 6) : ∀ d : Nat, RDk m B L N (f_RD d) (fun tag op => (6 - tag) + 6 * (5 - op) ≤ d) := by
  intro d
  induction d with
  | zero =>
    intro tag p a σ o x h1 h2
    have h3 : (6 - tag) + 6 * (5 - opN σ) ≤ 0 := h2
    omega
  | succ d ih =>
    intro tag p a σ o x h1 h2 hpre hop c kx u hp hpo
    have h3 : (6 - tag) + 6 * (5 - opN σ) ≤ d + 1 := h2
    have hcs : tag = 0 ∨ tag = 1 ∨ tag = 2 ∨ tag = 3 ∨ tag = 4 ∨ tag = 5 := by omega
    rcases hcs with rfl | rfl | rfl | rfl | rfl | rfl
    · exact kEi t hm hN ih (show (6 - 1) + 6 * (5 - opN σ) ≤ d by omega) hop hpre c kx u hp hpo
    · exact kBo t hm hN ih (show (6 - 2) + 6 * (5 - opN σ) ≤ d by omega) hop hpre c kx u hp hpo
    · exact kNot t hm hN ih (fun _ => (show (6 - 2) + 6 * (5 - (opN σ + 1)) ≤ d by omega)) (show (6 - 3) + 6 * (5 - opN σ) ≤ d by omega) hop hpre c kx u hp hpo
    · exact kSu t hm hN ih (show (6 - 4) + 6 * (5 - opN σ) ≤ d by omega) hop hpre c kx u hp hpo
    · exact kTe t hm hN ih (show (6 - 5) + 6 * (5 - opN σ) ≤ d by omega) hop hpre c kx u hp hpo
    · exact kOne t hm hN ih (fun _ => (show (6 - 5) + 6 * (5 - (opN σ + 1)) ≤ d by omega)) (fun _ => (show (6 - 0) + 6 * (5 - (opN σ + 1)) ≤ d by omega)) hop hpre c kx u hp hpo
