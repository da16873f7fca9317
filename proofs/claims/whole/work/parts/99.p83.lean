/-! PURE: the class's One -/
theorem stuck0 {B : Nat → Nat} {L p a : Nat} {τ q : List Nat} (h : exT 0 (tknd B L p) τ q) (h41 : tknd B L p ≠ 41) : stpA B L (p, 0, a, τ, q) = none := by
  obtain ⟨h1, h2, h3, h4, h5⟩ := h
  have e1 := h1 (by omega)
  have e2 := h2 (by omega)
  have e4 := h4 (by omega)
  have e5 := h5 (by omega)
  rw [stpA_0, if_neg h41]
  by_cases z : sgN (tknd B L p) = 0
  · rw [if_pos z]
  · have h60 : tknd B L p = 60 ∨ tknd B L p = 61 := by
      unfold sgN at z
      by_cases c1 : tknd B L p = 60
      · exact Or.inl c1
      · by_cases c2 : tknd B L p = 61
        · exact Or.inr c2
        · rw [if_neg e5, if_neg e4, if_neg c1, if_neg c2, if_neg e2.1, if_neg e2.2, if_neg e1] at z
          exact absurd rfl z
    have hr : rkN (sgN (tknd B L p)) = 4 := by
      rcases h60 with w | w <;> rw [w] <;> rfl
    rw [if_neg z, if_pos hr, if_pos (h3 (by omega) h60)]
theorem kOne {m : qaM} {B : Nat → Nat} {L N p a : Nat} {σ o : List Nat} {x : qaM} {rec : Nat → qaM → Int32 → Option (Int32 × qaM)} {ok : Nat → Nat → Prop} (t : TPb m B L) (hm : m 1 0 = nI N) (hN : N < 6) (R : RDk m B L N rec ok) (hok5 : opN σ < 5 → ok 5 (opN σ + 1)) (hok0 : opN σ < 5 → ok 0 (opN σ + 1)) (hop : opN σ ≤ 5) (hpre : preT 5 (tknd B L p) a σ) (c : C6 N m x) (kx : tkC x B L p) (u : ouC x N o) (hp : p ≤ L) (hpo : o.length ≤ p) : RSc m B L N 5 p a σ o (f_X4_readsOne rec x (nI (opN σ))) := by
  have hL := t.2.2.1
  have hkc := tknd_c B L p
  have hex : ∀ k τ q, exT 5 k τ q := fun k τ q => ⟨fun z => by omega, fun z => by omega, fun z => by omega, fun z => by omega, fun z => by omega⟩
  -- a value
  have hval : ∀ v : Nat, tknd B L p ≠ 0 → stC v → (∀ h : Nat, htS v h = some (h + 1)) → stpA B L (p, 1, a, σ, o) = some (tkE B L p, 0, a, (unw 7 σ (o ++ [v])).1, (unw 7 σ (o ++ [v])).2) → RSc m B L N 5 p a σ o (b_X4_readsOne_49 rec x (en6 v)) := by
    intro v h0 hv hh hst
    obtain ⟨e1, e2, e3⟩ := tkE_lt (B := B) hp h0
    obtain ⟨x2, y1, y2, y3, y4⟩ := kadds v c hm hN u (by omega)
    obtain ⟨x3, z1, z2, z3, z4⟩ := kgoC t y2 (kx.cg y4) y3 hp
    refine ⟨1, x3, ?_, z2, Or.inl ⟨rfl, tkE B L p, [v], _, _, a, by omega, e2, z3, z4, ?_, ?_, ?_, Rch.one hst, unw_un (Nat.le_refl _) _ _, hex _ _ _⟩⟩
    · unfold b_X4_readsOne_49
      simp only [li_0, li_1, li_2, li_3, li_4, li_5, li_6, li_7, li_8, li_9, li_10, li_11, li_12, li_13, li_14, li_15, li_16, li_17, li_18, li_19, li_20, li_30, li_31, li_32, li_33, li_40, li_41, li_42, li_43, li_45, li_48, li_56, li_57, li_59, li_60, li_61, li_64, li_91, li_97, li_99, li_100, li_122, li_150, li_160, li_200, li_201, li_255, li_300, li_303, li_304, li_305, li_306, li_312, li_400, li_500, li_999, li_1003, li_3099, li_99999, li_100000, li_1000000, li_65, li_23, li_neg]
      rw [y1, Option.bind_some, z1, Option.bind_some]
    · show 1 + p ≤ _
      omega
    · intro c hc
      rw [List.mem_singleton] at hc
      rw [hc]
      exact hv
    · intro h
      show Option.bind (htS v h) (htL []) = _
      rw [hh]
      rfl
  unfold f_X4_readsOne b_X4_readsOne_28
  simp only [li_0, li_1, li_2, li_3, li_4, li_5, li_6, li_7, li_8, li_9, li_10, li_11, li_12, li_13, li_14, li_15, li_16, li_17, li_18, li_19, li_20, li_30, li_31, li_32, li_33, li_40, li_41, li_42, li_43, li_45, li_48, li_56, li_57, li_59, li_60, li_61, li_64, li_91, li_97, li_99, li_100, li_122, li_150, li_160, li_200, li_201, li_255, li_300, li_303, li_304, li_305, li_306, li_312, li_400, li_500, li_999, li_1003, li_3099, li_99999, li_100000, li_1000000, li_65, li_23, li_neg]
  rw [kx.2.2.1]
  by_cases k2 : tknd B L p = 2
  · have hV := tkV_le k2
    rw [ic_eq_t k2, ic_eq_t k2, kx.2.2.2 k2]
    have he : en6 (100000 + tkV B L p) = nI (tkV B L p) := by
      unfold en6
      rw [if_pos (by omega)]
      exact congrArg nI (by omega)
    rw [← he]
    refine hval _ (by omega) (Or.inl (by omega)) (fun h => if_pos (by omega)) ?_
    rw [stpA_1, if_pos k2]
  rw [ic_eq_f k2 (by omega) (by omega), ic_eq_f k2 (by omega) (by omega)]
  by_cases k6 : 306 ≤ tknd B L p
  · rw [ic_lt_f k6 (by omega), ic_le_f (by omega) (by omega)]
    have he : en6 (tknd B L p - 306) = -nI (tknd B L p) := by
      unfold en6
      rw [if_neg (by omega), if_pos (by omega), show 306 + (tknd B L p - 306) = tknd B L p by omega]
      rfl
    rw [← he]
    refine hval _ (by omega) (Or.inr (Or.inl (by omega))) (fun h => if_pos (by omega)) ?_
    rw [stpA_1, if_neg k2, if_pos k6]
  rw [ic_lt_t (by omega) (by omega)]
  unfold b_X4_readsOne_58
  simp only [li_0, li_1, li_2, li_3, li_4, li_5, li_6, li_7, li_8, li_9, li_10, li_11, li_12, li_13, li_14, li_15, li_16, li_17, li_18, li_19, li_20, li_30, li_31, li_32, li_33, li_40, li_41, li_42, li_43, li_45, li_48, li_56, li_57, li_59, li_60, li_61, li_64, li_91, li_97, li_99, li_100, li_122, li_150, li_160, li_200, li_201, li_255, li_300, li_303, li_304, li_305, li_306, li_312, li_400, li_500, li_999, li_1003, li_3099, li_99999, li_100000, li_1000000, li_65, li_23, li_neg]
  rw [kx.2.2.1]
  have hs0 : stpA B L (p, 1, a, σ, o) = (if opN σ = 5 then none
    else if tknd B L p = 305 ∧ a = 1 then some (tkE B L p, 1, a, 13 :: σ, o)
    else if tknd B L p = 45 then some (tkE B L p, 1, 0, 19 :: σ, o)
    else if tknd B L p = 40 then some (tkE B L p, 1, 1, 0 :: σ, o)
    else none) := by rw [stpA_1, if_neg k2, if_neg k6]
  have h305 : ¬ (tknd B L p = 305 ∧ a = 1) := fun z => hpre.2.2.2.2.2.2 (by omega) ⟨z.2, z.1⟩
  have hfail : stpA B L (p, 1, a, σ, o) = none → RSc m B L N 5 p a σ o (some (nI 0, x)) := fun hz => ⟨0, x, rfl, c, Or.inr ⟨rfl, ⟨o.length, by omega, u.1⟩, (p, 1, a, σ, o), hp, kx.1, Rch.rf _, hz, fun z => absurd z.1 (by omega)⟩⟩
  by_cases c45 : tknd B L p = 45
  · rw [ic_eq_t c45]
    unfold b_X4_readsOne_76
    simp only [li_0, li_1, li_2, li_3, li_4, li_5, li_6, li_7, li_8, li_9, li_10, li_11, li_12, li_13, li_14, li_15, li_16, li_17, li_18, li_19, li_20, li_30, li_31, li_32, li_33, li_40, li_41, li_42, li_43, li_45, li_48, li_56, li_57, li_59, li_60, li_61, li_64, li_91, li_97, li_99, li_100, li_122, li_150, li_160, li_200, li_201, li_255, li_300, li_303, li_304, li_305, li_306, li_312, li_400, li_500, li_999, li_1003, li_3099, li_99999, li_100000, li_1000000, li_65, li_23, li_neg]
    rw [kx.2.2.1, ic_eq_t c45]
    by_cases o5 : opN σ = 5
    · rw [ic_lt_f (by omega) (by omega)]
      exact hfail (by rw [hs0, if_pos o5])
    · obtain ⟨e1, e2, e3⟩ := tkE_lt (B := B) hp (by omega)
      have hst : stpA B L (p, 1, a, σ, o) = some (tkE B L p, 1, 0, 19 :: σ, o) := by rw [hs0, if_neg o5, if_neg h305, if_pos c45]
      obtain ⟨y, y1, y2, y3, y4⟩ := kgoC t c kx u hp
      have hop2 : opN (19 :: σ) = opN σ + 1 := Nat.add_comm _ _
      obtain ⟨b1, z, z1, z2, z3⟩ := R 5 (tkE B L p) 0 (19 :: σ) o y (by omega) (by rw [hop2]; exact hok5 (by omega)) ⟨fun z => by omega, fun z => by omega, fun z => by omega, fun z => by omega, fun z => by omega, fun z => by omega, fun _ z => absurd z.1 (by omega)⟩ (by omega) y2 y3 y4 e2 (by omega)
      rw [hop2] at z1
      rw [ic_lt_t (by omega) (by omega), y1, Option.bind_some, pu_add, z1, Option.bind_some]
      rcases z3 with ⟨rfl, p3, w3, τ3, q3, a3', j1, j2, j3, j4, j5, j6, j7, j8, j9, j10⟩ | ⟨rfl, j1, d, j2, j3, j4, j5, j6⟩
      · have hlw3 : (o ++ w3).length = o.length + w3.length := List.length_append
        obtain ⟨z4, f5, f6, f7, f8⟩ := kadds 19 z2 hm hN j4 (by omega)
        refine ⟨1, z4, ?_, f6, Or.inl ⟨rfl, p3, w3 ++ [19], τ3, q3, a3', by omega, j2, j3.cg f8, ?_, ?_, ?_, ?_, (Rch.one hst).t j8, ?_, hex _ _ _⟩⟩
        · show Option.bind (f_X5_adds z (en6 19)) _ = _
          rw [f5, Option.bind_some, qa_bl1, pu_ck]
        · rw [← List.append_assoc]
          exact f7
        · rw [List.length_append]
          show w3.length + 1 + p ≤ p3
          omega
        · intro c hc
          rcases List.mem_append.mp hc with h | h
          · exact j6 c h
          · rw [List.mem_singleton] at h
            rw [h]
            exact Or.inr (Or.inr (by omega))
        · intro h
          rw [htL_app, j7, Option.bind_some]
          rfl
        · refine (show unw 7 τ3 q3 = _ from j9).trans ?_
          show unw 7 (19 :: σ) (o ++ w3) = _
          rw [unw_ge (by decide), List.append_assoc]
          rfl
      · obtain ⟨z4, f5, f6, f7, f8⟩ := kaddsF (v := nM 200) z2 hm hN j1
        refine ⟨0, z4, ?_, f6, Or.inr ⟨rfl, f7, d, j2, (f8 2).trans j3, (Rch.one hst).t j4, j5, j6⟩⟩
        rw [f5, Option.bind_some, qa_bl0, pu_ck]
  rw [ic_eq_f c45 (by omega) (by omega)]
  by_cases c40 : tknd B L p = 40
  · rw [ic_eq_t c40]
    unfold b_X4_readsOne_76
    simp only [li_0, li_1, li_2, li_3, li_4, li_5, li_6, li_7, li_8, li_9, li_10, li_11, li_12, li_13, li_14, li_15, li_16, li_17, li_18, li_19, li_20, li_30, li_31, li_32, li_33, li_40, li_41, li_42, li_43, li_45, li_48, li_56, li_57, li_59, li_60, li_61, li_64, li_91, li_97, li_99, li_100, li_122, li_150, li_160, li_200, li_201, li_255, li_300, li_303, li_304, li_305, li_306, li_312, li_400, li_500, li_999, li_1003, li_3099, li_99999, li_100000, li_1000000, li_65, li_23, li_neg]
    rw [kx.2.2.1, ic_eq_f c45 (by omega) (by omega)]
    by_cases o5 : opN σ = 5
    · rw [ic_lt_f (by omega) (by omega)]
      exact hfail (by rw [hs0, if_pos o5])
    · obtain ⟨e1, e2, e3⟩ := tkE_lt (B := B) hp (by omega)
      have hst : stpA B L (p, 1, a, σ, o) = some (tkE B L p, 1, 1, 0 :: σ, o) := by rw [hs0, if_neg o5, if_neg h305, if_neg c45, if_pos c40]
      obtain ⟨y, y1, y2, y3, y4⟩ := kgoC t c kx u hp
      have hop2 : opN (0 :: σ) = opN σ + 1 := Nat.add_comm _ _
      obtain ⟨b1, z, z1, z2, z3⟩ := R 0 (tkE B L p) 1 (0 :: σ) o y (by omega) (by rw [hop2]; exact hok0 (by omega)) ⟨fun _ => (show rkN 0 < 1 by decide), fun z => by omega, fun z => by omega, fun z => by omega, fun z => by omega, fun _ => rfl, fun z => by omega⟩ (by omega) y2 y3 y4 e2 (by omega)
      rw [hop2] at z1
      rw [ic_lt_t (by omega) (by omega), y1, Option.bind_some, pu_add, z1, Option.bind_some]
      rcases z3 with ⟨rfl, p3, w3, τ3, q3, a3', j1, j2, j3, j4, j5, j6, j7, j8, j9, j10⟩ | ⟨rfl, j1, d, j2, j3, j4, j5, j6⟩
      · have hlw3 : (o ++ w3).length = o.length + w3.length := List.length_append
        have hu1 : unw 1 τ3 q3 = (0 :: σ, o ++ w3) := (show unw 1 τ3 q3 = unw 1 (0 :: σ) (o ++ w3) from j9).trans (if_neg (by decide))
        rw [if_neg n10]
        show RSc m B L N 5 p a σ o (if z 6 4 = nI 41 then (Option.bind (f_X4_goesOn z) (fun q5 => some (nI 1, q5))) else some (nI 0, z))
        rw [j3.2.2.1]
        have hkc3 := tknd_c B L p3
        by_cases c41 : tknd B L p3 = 41
        · obtain ⟨i1, i2, i3⟩ := tkE_lt (B := B) j2 (by omega)
          obtain ⟨x5, x1, x2, x3, x4⟩ := kgoC t z2 j3 j4 j2
          have hst3 : stpA B L (p3, 0, a3', τ3, q3) = some (tkE B L p3, 0, a3', (unw 7 σ (o ++ w3)).1, (unw 7 σ (o ++ w3)).2) := by
            rw [stpA_0, if_pos c41, hu1, if_neg (by simp)]
            rfl
          rw [ic_eq_t c41, x1, Option.bind_some]
          exact ⟨1, x5, rfl, x2, Or.inl ⟨rfl, tkE B L p3, w3, _, _, a3', by omega, i2, x3, x4, by omega, j6, j7, ((Rch.one hst).t j8).t (Rch.one hst3), unw_un (Nat.le_refl _) _ _, hex _ _ _⟩⟩
        · rw [ic_eq_f c41 (by omega) (by omega)]
          refine ⟨0, z, rfl, z2, Or.inr ⟨rfl, ⟨_, by omega, j4.1⟩, (p3, 0, a3', τ3, q3), j2, j3.1, (Rch.one hst).t j8, stuck0 j10 c41, fun w => ?_⟩⟩
          have := w.2.2
          rw [hu1] at this
          cases this
      · rw [if_pos rfl]
        exact ⟨0, z, rfl, z2, Or.inr ⟨rfl, j1, d, j2, j3, (Rch.one hst).t j4, j5, j6⟩⟩
  rw [ic_eq_f c40 (by omega) (by omega)]
  refine hfail ?_
  rw [hs0, if_neg h305, if_neg c45, if_neg c40]
  split <;> rfl
