/-! PURE: pileUp, the call -/
def mkZ (how : Nat) (A : Nat → AL) (i : Nat) : Int := if how = 2 then (i : Int) else if how = 0 then (A i 2 : Int) else -(A i 2 : Int)
def mkI (how : Nat) (A : Nat → AL) (i : Nat) : Int32 := if how = 2 then nI i else if how = 0 then nI (A i 2) else nM (A i 2)
theorem mkI_t {how i : Nat} {A : Nat → AL} (hi : i < 8) (hA : A i 2 ≤ 999) : (mkI how A i).toInt = mkZ how A i := by
  unfold mkI mkZ
  by_cases h2 : how = 2
  · rw [if_pos h2, if_pos h2, pu_t (by omega)]
  · rw [if_neg h2, if_neg h2]
    by_cases h0 : how = 0
    · rw [if_pos h0, if_pos h0, pu_t (by omega)]
    · rw [if_neg h0, if_neg h0, nM_t (by omega)]
theorem kmarkOf {m : qaM} {H : HS} {how i : Nat} (c : CH m 8 H) (hi : i < 8) (hh : how ≤ 2) : f_X0_markOf 8 m (nI i) (nI how) = some (mkI how H.A i) := by
  have hf := cfact (h := 8) (i := i) (k := 2) c hi (by omega) (by omega)
  unfold f_X0_markOf mkI
  simp only [li_0, li_1, li_2, li_3, li_4, li_5, li_6, li_7, li_8, li_9, li_10, li_11, li_12, li_13, li_14, li_15, li_16, li_17, li_18, li_19, li_20, li_30, li_31, li_32, li_33, li_40, li_41, li_42, li_43, li_45, li_48, li_56, li_57, li_59, li_60, li_61, li_64, li_91, li_97, li_99, li_100, li_122, li_150, li_160, li_200, li_201, li_255, li_300, li_303, li_304, li_305, li_306, li_312, li_400, li_500, li_999, li_1003, li_3099, li_99999, li_100000, li_1000000, li_65, li_23, li_neg]
  have h3 : how = 0 ∨ how = 1 ∨ how = 2 := by omega
  rcases h3 with rfl | rfl | rfl
  · rw [if_neg (by decide), if_pos rfl, if_neg (by omega), if_pos rfl]
    show Option.bind (f_X1_fact (8 + 1) m (nI i) (nI 2)) _ = _
    rw [hf, Option.bind_some]
  · rw [if_neg (by decide), if_neg (by decide), if_neg (by omega), if_neg (by omega)]
    show Option.bind (f_X1_fact (8 + 1) m (nI i) (nI 2)) _ = _
    rw [hf, Option.bind_some, li_neg]
  · rw [if_pos rfl, if_pos rfl]
/-- one step of the class's sorting -/
theorem ksortS {m : qaM} {H : HS} {how k : Nat} {L : List Nat} {v2 : Int32} (c : CH m 8 (H.setP L)) (v : HV H) (hb : ∀ x ∈ L, x < H.n) (hh : how ≤ 2) (hk : k < L.length) (h0 : 0 < k) (hv2 : nI L.length = v2) :
    ∃ m2, b_X0_sortsPile_10 8 m (nI how) v2 (nI k) = some (.inl (m2, nI (k + 1))) ∧ CH m2 8 (H.setP (isS (mkZ how H.A) L k)) ∧ qF [11, 12] m m2 := by
  have n8 := v.n8
  have l8 : L.length ≤ 8 := c.2.1.2.1
  obtain ⟨m1, a1, a2, a3⟩ := cremove (h := 8) (k := k) c hk
  have a1' : f_X2_removesAt (8 + 3) m (nI k) = some (nI (L.getD k 0), m1) := a1
  have a2' : CH m1 8 (H.setP (rmA L k)) := a2
  have hi8 : L.getD k 0 < 8 := by
    have := hb _ (getD_mem hk)
    omega
  have hav : ∀ x, H.A x 2 ≤ 999 := fun x => (v.av x).2.2.1
  have hlen : (rmA L k).length = L.length - 1 := rmA_len hk
  have hx8 : ∀ j : Nat, j < (rmA L k).length → (rmA L k).getD j 0 < 8 := fun j hj => by
    have := hb _ ((rmA_sub L k).subset (getD_mem hj))
    omega
  have hend : ∀ p : Nat, p ≤ k → ∃ m2, b_X0_sortsPile_78 8 m1 (nI how) v2 (nI k) (nI (L.getD k 0)) (nI p) = some (.inl (m2, nI (k + 1))) ∧ CH m2 8 (H.setP (mvA L k p)) ∧ qF [11, 12] m1 m2 := by
    intro p hp
    obtain ⟨m2, b1, b2, b3⟩ := cinsert (h := 8) (k := p) (i := L.getD k 0) a2' (by show p ≤ (rmA L k).length; omega) (by show (rmA L k).length < 8; omega)
    refine ⟨m2, ?_, b2, b3⟩
    unfold b_X0_sortsPile_78
    rw [b1]
    ((try simp only [li_0, li_1, li_2, li_3, li_4, li_5, li_6, li_7, li_8, li_9, li_10, li_11, li_12, li_13, li_14, li_15, li_16, li_17, li_18, li_19, li_20, li_30, li_31, li_32, li_33, li_40, li_41, li_42, li_43, li_45, li_48, li_56, li_57, li_59, li_60, li_61, li_64, li_91, li_97, li_99, li_100, li_122, li_150, li_160, li_200, li_201, li_255, li_300, li_303, li_304, li_305, li_306, li_312, li_400, li_500, li_999, li_1003, li_3099, li_99999, li_100000, li_1000000, li_65, li_23, li_neg]); (try simp (disch := omega) only [ic_le_f, ic_le_t, ic_lt_f, ic_lt_t, ic_eq_f, ic_eq_t, ic_im, ic_mi, ic_mm_t, ic_mm_f, ic_mlt, ic_mle, ic_ilem, ic_iltm, ic_mmle_t, ic_mmle_f, pu_add, pu_mul, pu_in, pu_ck, pu_let, pu_cl, pu_cpok, pu_inr, Option.bind_some, ite_true, ite_false, pu_dm, pu_dv, pu_sub, nt_dm, if_true, if_false]))
  obtain ⟨r, h1, h2⟩ := lp_at (f := fun s : Int32 × Int32 => b_X0_sortsPile_31 8 m1 (nI how) v2 (nI k) (nI (L.getD k 0)) s.1 s.2) (fun j s => s = (nI (k - j), nI j) ∧ j ≤ k ∧ isQ (mkZ how H.A) L k = plIns (mkZ how H.A) (rmA L k) (L.getD k 0) (k - j))
    (fun r => ∃ m2, r = .inl (m2, nI (k + 1)) ∧ CH m2 8 (H.setP (isS (mkZ how H.A) L k)) ∧ qF [11, 12] m1 m2) k (s := (nI k, nI 0)) ⟨rfl, Nat.zero_le _, rfl⟩ (by omega) (by
    rintro j s hj ⟨rfl, _, hq⟩
    unfold b_X0_sortsPile_31
    rcases Nat.lt_or_ge j k with y | y
    · obtain ⟨p, hp⟩ : ∃ p, k - j = p + 1 := ⟨k - j - 1, by omega⟩
      rw [hp] at hq
      have hpl : p < (rmA L k).length := by omega
      have hat : f_X2_at (8 + 3) m1 (nI p) = some (nI ((rmA L k).getD p 0)) := at_ok a2'.2.1 hpl
      have m1k := kmarkOf (i := (rmA L k).getD p 0) a2' (hx8 p hpl) hh
      have m2k := kmarkOf (i := L.getD k 0) a2' hi8 hh
      have e1 : (H.setP (rmA L k)).A = H.A := rfl
      rw [e1] at m1k m2k
      have hcmp : (mkI how H.A ((rmA L k).getD p 0) ≤ mkI how H.A (L.getD k 0)) ↔ ¬ mkZ how H.A (L.getD k 0) < mkZ how H.A ((rmA L k).getD p 0) := by
        rw [Int32.le_iff_toInt_le, mkI_t (hx8 p hpl) (hav _), mkI_t hi8 (hav _)]
        omega
      simp only [li_0, li_1, li_2, li_3, li_4, li_5, li_6, li_7, li_8, li_9, li_10, li_11, li_12, li_13, li_14, li_15, li_16, li_17, li_18, li_19, li_20, li_30, li_31, li_32, li_33, li_40, li_41, li_42, li_43, li_45, li_48, li_56, li_57, li_59, li_60, li_61, li_64, li_91, li_97, li_99, li_100, li_122, li_150, li_160, li_200, li_201, li_255, li_300, li_303, li_304, li_305, li_306, li_312, li_400, li_500, li_999, li_1003, li_3099, li_99999, li_100000, li_1000000, li_65, li_23, li_neg]
      rw [hp, ic_le_f (by omega) (by omega), ic_le_f (by omega) (by omega), pu_sub (by omega), show p + 1 - 1 = p by omega]
      show (∃ s', Option.bind (f_X2_at (8 + 3) m1 (nI p)) _ = _ ∧ _) ∨ (∃ r, Option.bind (f_X2_at (8 + 3) m1 (nI p)) _ = _ ∧ _)
      rw [hat, Option.bind_some, m1k, Option.bind_some, m2k, Option.bind_some]
      rw [plIns] at hq
      by_cases w : mkZ how H.A (L.getD k 0) < mkZ how H.A ((rmA L k).getD p 0)
      · rw [if_pos w] at hq
        rw [if_neg (fun z => hcmp.mp z w)]
        refine Or.inl ⟨(nI p, nI (j + 1)), ?_, y, ?_, by omega, ?_⟩
        · rw [pu_add, pu_let, show nI (p + 1) + nM 1 = nI p from by rw [plI_p, plI_s], pu_let]
        · rw [show k - (j + 1) = p by omega]
        · rw [show k - (j + 1) = p by omega]
          exact hq
      · rw [if_neg w] at hq
        rw [if_pos (hcmp.mpr w)]
        obtain ⟨m2, b1, b2, b3⟩ := hend (p + 1) (by omega)
        refine Or.inr ⟨.inl (m2, nI (k + 1)), by rw [b1, pu_inr], m2, rfl, ?_, b3⟩
        unfold isS
        rw [hq]
        exact b2
    · have hjk : j = k := by omega
      subst hjk
      rw [Nat.sub_self] at hq ⊢
      rw [plIns] at hq
      obtain ⟨m2, b1, b2, b3⟩ := hend 0 (by omega)
      refine Or.inr ⟨.inl (m2, nI (j + 1)), ?_, m2, rfl, ?_, b3⟩
      · simp only [li_0, li_1, li_2, li_3, li_4, li_5, li_6, li_7, li_8, li_9, li_10, li_11, li_12, li_13, li_14, li_15, li_16, li_17, li_18, li_19, li_20, li_30, li_31, li_32, li_33, li_40, li_41, li_42, li_43, li_45, li_48, li_56, li_57, li_59, li_60, li_61, li_64, li_91, li_97, li_99, li_100, li_122, li_150, li_160, li_200, li_201, li_255, li_300, li_303, li_304, li_305, li_306, li_312, li_400, li_500, li_999, li_1003, li_3099, li_99999, li_100000, li_1000000, li_65, li_23, li_neg]
        rw [ic_le_f (by omega) (by omega), ic_le_t (by omega) (by omega), b1, pu_inr]
      · unfold isS
        rw [hq]
        exact b2)
  obtain ⟨m2, hr, h3, h4⟩ := h2
  refine ⟨m2, ?_, h3, (a3.mo (by simp)).t2 h4 (by simp)⟩
  unfold b_X0_sortsPile_10
  rw [← hv2, ic_le_f hk (by omega), a1', Option.bind_some]
  simp only [li_0, li_1, li_2, li_3, li_4, li_5, li_6, li_7, li_8, li_9, li_10, li_11, li_12, li_13, li_14, li_15, li_16, li_17, li_18, li_19, li_20, li_30, li_31, li_32, li_33, li_40, li_41, li_42, li_43, li_45, li_48, li_56, li_57, li_59, li_60, li_61, li_64, li_91, li_97, li_99, li_100, li_122, li_150, li_160, li_200, li_201, li_255, li_300, li_303, li_304, li_305, li_306, li_312, li_400, li_500, li_999, li_1003, li_3099, li_99999, li_100000, li_1000000, li_65, li_23, li_neg]
  rw [lp_X0_sortsPile_31, hv2, h1, hr]
theorem ksorts {m : qaM} {H : HS} {how : Nat} (c : CH m 8 H) (v : HV H) (hh : how ≤ 2) : ∃ m2, f_X0_sortsPile 8 m (nI how) = some m2 ∧ CH m2 8 (H.setP (isA (mkZ how H.A) H.P (H.P.length - 1))) ∧ qF [11, 12] m m2 := by
  have n8 := v.n8
  have l8 := v.len8
  have hst := nd_st (mk := mkZ how H.A) v.nd
  have h11 : m 11 0 = nI H.P.length := c.2.1.1
  have cP : CH m 8 (H.setP (isA (mkZ how H.A) H.P 0)) := c
  obtain ⟨r, h1, h2⟩ := lp_at (f := fun s : qaM × Int32 => b_X0_sortsPile_10 8 s.1 (nI how) (nI H.P.length) s.2) (fun j s => s.2 = nI (j + 1) ∧ CH s.1 8 (H.setP (isA (mkZ how H.A) H.P j)) ∧ qF [11, 12] m s.1) (fun r => CH r 8 (H.setP (isA (mkZ how H.A) H.P (H.P.length - 1))) ∧ qF [11, 12] m r) (H.P.length - 1) (s := (m, nI 1)) ⟨rfl, cP, qF.rf _ _⟩ (by omega) (by
    rintro j ⟨x, k⟩ hj ⟨hk, hc, hf⟩
    have hk2 : k = nI (j + 1) := hk
    subst hk2
    replace hc : CH x 8 (H.setP (isA (mkZ how H.A) H.P j)) := hc
    replace hf : qF [11, 12] m x := hf
    have hok := isA_ok hst j hj
    have hl := hok.1.1.length_eq
    rcases Nat.lt_or_ge j (H.P.length - 1) with q | q
    · obtain ⟨x2, g1, g2, g3⟩ := ksortS (k := j + 1) (v2 := nI H.P.length) hc v (fun y hy => v.lt y (hok.1.1.mem_iff.mp hy)) hh (by rw [hl]; omega) (by omega) (by rw [hl])
      exact Or.inl ⟨(x2, nI (j + 1 + 1)), g1, q, rfl, g2, hf.t2 g3 (fun _ z => z)⟩
    · have hjl : j = H.P.length - 1 := by omega
      refine Or.inr ⟨x, ?_, by rw [← hjl]; exact hc, hf⟩
      show b_X0_sortsPile_10 8 x (nI how) (nI H.P.length) (nI (j + 1)) = _
      unfold b_X0_sortsPile_10
      rw [ic_le_t (by omega) (by omega)]
      rfl)
  refine ⟨r, ?_, h2⟩
  unfold f_X0_sortsPile
  show qa_lt (m 11 0) _ = _
  rw [h11, pu_let]
  simp only [li_0, li_1, li_2, li_3, li_4, li_5, li_6, li_7, li_8, li_9, li_10, li_11, li_12, li_13, li_14, li_15, li_16, li_17, li_18, li_19, li_20, li_30, li_31, li_32, li_33, li_40, li_41, li_42, li_43, li_45, li_48, li_56, li_57, li_59, li_60, li_61, li_64, li_91, li_97, li_99, li_100, li_122, li_150, li_160, li_200, li_201, li_255, li_300, li_303, li_304, li_305, li_306, li_312, li_400, li_500, li_999, li_1003, li_3099, li_99999, li_100000, li_1000000, li_65, li_23, li_neg]
  rw [lp_X0_sortsPile_10, h1]
-- the reference
theorem RP.mv {m : qaM} {L : List Nat} {p : Nat} (h : RP m L) (hp : p < L.length) (h0 : 0 < p) : RP (qa_st (qa_st m 40 p (m 40 (p - 1))) 40 (p - 1) (m 40 p)) (mvA L p (p - 1)) := by
  have hl := mvA_len (p - 1) hp
  refine ⟨?_, by rw [hl]; exact h.2.1, fun j hj => ?_⟩
  · rw [hl, st_n (by omega), st_n (by omega)]
    exact h.1
  · rw [hl] at hj
    rw [mvA_get hp (by omega), st_s, st_s]
    rcases Nat.lt_trichotomy j (p - 1) with q | q | q
    · rw [if_pos q, up_n (by omega), up_n (by omega)]
      exact h.2.2 j hj
    · rw [if_neg (by omega), if_pos q, q, up_s]
      exact h.2.2 p hp
    · rw [if_neg (by omega), if_neg (by omega), up_n (by omega)]
      by_cases z : j = p
      · rw [z, up_s, if_pos (Nat.le_refl _)]
        exact h.2.2 (p - 1) (by omega)
      · rw [up_n z, if_neg (by omega)]
        exact h.2.2 j hj
theorem r7wrong {m : qaM} {H : HS} {L : List Nat} {how a b : Nat} (c : MH m (H.setP L)) (v : HV H) (hh : how ≤ 2) (ha : a < H.n) (hb : b < H.n) : f_X7_areWrong m (nI how) (nI a) (nI b) = some (if mkZ how H.A b < mkZ how H.A a then nI 1 else nI 0) := by
  have n8 := v.n8
  have ra : m 39 (6 * a) = nI (H.A a 2) := r7row (H := H.setP L) c ha (k := 0) (by omega) (by omega)
  have rb : m 39 (6 * b) = nI (H.A b 2) := r7row (H := H.setP L) c hb (k := 0) (by omega) (by omega)
  have xa := (v.av a).2.2.1
  have xb := (v.av b).2.2.1
  unfold f_X7_areWrong mkZ
  simp only [li_0, li_1, li_2, li_3, li_4, li_5, li_6, li_7, li_8, li_9, li_10, li_11, li_12, li_13, li_14, li_15, li_16, li_17, li_18, li_19, li_20, li_30, li_31, li_32, li_33, li_40, li_41, li_42, li_43, li_45, li_48, li_56, li_57, li_59, li_60, li_61, li_64, li_91, li_97, li_99, li_100, li_122, li_150, li_160, li_200, li_201, li_255, li_300, li_303, li_304, li_305, li_306, li_312, li_400, li_500, li_999, li_1003, li_3099, li_99999, li_100000, li_1000000, li_65, li_23, li_neg]
  have h3 : how = 0 ∨ how = 1 ∨ how = 2 := by omega
  rcases h3 with rfl | rfl | rfl
  · rw [if_pos rfl, pu_mul, pu_mul, pu_in (by omega) (by omega), pu_in (by omega) (by omega), pu_ck, pu_ck, pu_cl (by omega), pu_cl (by omega), ra, rb]
    simp only [if_neg (show ¬ (0 : Nat) = 2 by omega), if_true]
    by_cases q : H.A a 2 ≤ H.A b 2
    · rw [if_pos (nI_le q (by omega)), if_neg (by omega)]
    · rw [if_neg (fun z => q ((nI_leI (by omega) (by omega)).mp z)), if_pos (by omega)]
  · rw [if_neg (by decide), if_pos rfl, pu_mul, pu_mul, pu_in (by omega) (by omega), pu_in (by omega) (by omega), pu_ck, pu_ck, pu_cl (by omega), pu_cl (by omega), ra, rb]
    simp only [if_neg (show ¬ (1 : Nat) = 2 by omega), if_neg (show ¬ (1 : Nat) = 0 by omega)]
    by_cases q : H.A b 2 ≤ H.A a 2
    · rw [if_pos (nI_le q (by omega)), if_neg (by omega)]
    · rw [if_neg (fun z => q ((nI_leI (by omega) (by omega)).mp z)), if_pos (by omega)]
  · rw [if_neg (by decide), if_neg (by decide)]
    simp only [if_true]
    by_cases q : a ≤ b
    · rw [if_pos (nI_le q (by omega)), if_neg (by omega)]
    · rw [if_neg (fun z => q ((nI_leI (by omega) (by omega)).mp z)), if_pos (by omega)]
/-- a pass -/
theorem r7pass {m : qaM} {H : HS} {how : Nat} {v2 : Int32} (v : HV H) (hh : how ≤ 2) : ∀ (p : Nat) (L : List Nat) (x : qaM) (fuel : Nat), p < fuel → MH x (H.setP L) → (∀ y ∈ L, y < H.n) → p < L.length → qF [40] m x →
    ∃ x2, qa_lp (fun s : qaM × Int32 => b_X7_pileUp_43 s.1 (nI how) v2 s.2) fuel (x, nI p) = some (.inl (x2, v2 + nI 1)) ∧ MH x2 (H.setP (bbD (mkZ how H.A) p L)) ∧ qF [40] m x2 := by
  intro p
  induction p with
  | zero =>
    intro L x fuel hf c hb hl f
    obtain ⟨fu, rfl⟩ : ∃ fu, fuel = fu + 1 := ⟨fuel - 1, by omega⟩
    refine ⟨x, ?_, c, f⟩
    have : b_X7_pileUp_43 x (nI how) v2 (nI 0) = some (.inr (.inl (x, v2 + nI 1))) := by
      unfold b_X7_pileUp_43 b_X7_pileUp_107
      simp only [li_0, li_1, li_2, li_3, li_4, li_5, li_6, li_7, li_8, li_9, li_10, li_11, li_12, li_13, li_14, li_15, li_16, li_17, li_18, li_19, li_20, li_30, li_31, li_32, li_33, li_40, li_41, li_42, li_43, li_45, li_48, li_56, li_57, li_59, li_60, li_61, li_64, li_91, li_97, li_99, li_100, li_122, li_150, li_160, li_200, li_201, li_255, li_300, li_303, li_304, li_305, li_306, li_312, li_400, li_500, li_999, li_1003, li_3099, li_99999, li_100000, li_1000000, li_65, li_23, li_neg]
      rw [ic_le_t (by omega) (by omega), pu_let, pu_inr]
    rw [qa_lp, this]
  | succ p ih =>
    intro L x fuel hf c hb hl f
    obtain ⟨fu, rfl⟩ : ∃ fu, fuel = fu + 1 := ⟨fuel - 1, by omega⟩
    have hl8 : L.length ≤ 8 := c.2.1.2.1
    have hP : RP x L := c.2.1
    have e0 : x 40 p = nI (L.getD p 0) := hP.2.2 p (by omega)
    have e1 : x 40 (p + 1) = nI (L.getD (p + 1) 0) := hP.2.2 (p + 1) hl
    have hw := r7wrong (a := L.getD p 0) (b := L.getD (p + 1) 0) c v hh (hb _ (getD_mem (by omega))) (hb _ (getD_mem hl))
    have hstep : ∀ x2 : qaM, b_X7_pileUp_101 x2 (nI how) v2 (nI (p + 1)) = some (.inl (x2, nI p)) := fun x2 => by
      unfold b_X7_pileUp_101
      simp only [li_0, li_1, li_2, li_3, li_4, li_5, li_6, li_7, li_8, li_9, li_10, li_11, li_12, li_13, li_14, li_15, li_16, li_17, li_18, li_19, li_20, li_30, li_31, li_32, li_33, li_40, li_41, li_42, li_43, li_45, li_48, li_56, li_57, li_59, li_60, li_61, li_64, li_91, li_97, li_99, li_100, li_122, li_150, li_160, li_200, li_201, li_255, li_300, li_303, li_304, li_305, li_306, li_312, li_400, li_500, li_999, li_1003, li_3099, li_99999, li_100000, li_1000000, li_65, li_23, li_neg]
      rw [show nI (p + 1) + nM 1 = nI p from by rw [plI_p, plI_s], pu_let]
    have hb2 : ∀ y ∈ bbS (mkZ how H.A) L (p + 1), y < H.n := by
      intro y hy
      unfold bbS at hy
      split at hy
      · exact hb y ((mvA_perm _ hl).mem_iff.mp hy)
      · exact hb y hy
    have hlen := bbS_len (mk := mkZ how H.A) hl
    have e : bbD (mkZ how H.A) (p + 1) L = bbD (mkZ how H.A) p (bbS (mkZ how H.A) L (p + 1)) := rfl
    by_cases w : mkZ how H.A (L.getD (p + 1) 0) < mkZ how H.A (L.getD p 0)
    · have eb : bbS (mkZ how H.A) L (p + 1) = mvA L (p + 1) p := if_pos w
      have f1 : qF [40] x (qa_st (qa_st x 40 (p + 1) (x 40 p)) 40 p (x 40 (p + 1))) := ((qF.rf _ x).stl (by simp)).stl (by simp)
      have c2 : MH (qa_st (qa_st x 40 (p + 1) (x 40 p)) 40 p (x 40 (p + 1))) (H.setP (bbS (mkZ how H.A) L (p + 1))) := by
        rw [eb]
        exact c.P2 (f1.mo (by simp)) (RP.mv hP hl (by omega)) (by rw [f1 36 (by simp)]) (by rw [f1 36 (by simp)]) (by rw [f1 36 (by simp)])
      obtain ⟨x2, g1, g2, g3⟩ := ih _ _ fu (by omega) c2 hb2 (by rw [hlen]; omega) (f.t2 f1 (fun _ z => z))
      refine ⟨x2, ?_, by rw [e]; exact g2, g3⟩
      have hs : b_X7_pileUp_43 x (nI how) v2 (nI (p + 1)) = some (.inl (qa_st (qa_st x 40 (p + 1) (x 40 p)) 40 p (x 40 (p + 1)), nI p)) := by
        unfold b_X7_pileUp_43
        simp only [li_0, li_1, li_2, li_3, li_4, li_5, li_6, li_7, li_8, li_9, li_10, li_11, li_12, li_13, li_14, li_15, li_16, li_17, li_18, li_19, li_20, li_30, li_31, li_32, li_33, li_40, li_41, li_42, li_43, li_45, li_48, li_56, li_57, li_59, li_60, li_61, li_64, li_91, li_97, li_99, li_100, li_122, li_150, li_160, li_200, li_201, li_255, li_300, li_303, li_304, li_305, li_306, li_312, li_400, li_500, li_999, li_1003, li_3099, li_99999, li_100000, li_1000000, li_65, li_23, li_neg]
        rw [ic_le_f (by omega) (by omega), pu_sub (by omega), show p + 1 - 1 = p by omega, pu_in (by omega) (by omega), pu_ck, pu_in (by omega) (by omega), pu_ck, pu_cl (by omega), pu_cl (by omega), e0, e1, hw, if_pos w, Option.bind_some, if_neg n10, pu_ck, pu_let, pu_ck, pu_ck, pu_let, pu_ck, pu_let, hstep]
      rw [qa_lp, hs]
      exact g1
    · have eb : bbS (mkZ how H.A) L (p + 1) = L := if_neg w
      rw [eb] at e
      obtain ⟨x2, g1, g2, g3⟩ := ih L x fu (by omega) c hb (by omega) f
      refine ⟨x2, ?_, by rw [e]; exact g2, g3⟩
      have hs : b_X7_pileUp_43 x (nI how) v2 (nI (p + 1)) = some (.inl (x, nI p)) := by
        unfold b_X7_pileUp_43
        simp only [li_0, li_1, li_2, li_3, li_4, li_5, li_6, li_7, li_8, li_9, li_10, li_11, li_12, li_13, li_14, li_15, li_16, li_17, li_18, li_19, li_20, li_30, li_31, li_32, li_33, li_40, li_41, li_42, li_43, li_45, li_48, li_56, li_57, li_59, li_60, li_61, li_64, li_91, li_97, li_99, li_100, li_122, li_150, li_160, li_200, li_201, li_255, li_300, li_303, li_304, li_305, li_306, li_312, li_400, li_500, li_999, li_1003, li_3099, li_99999, li_100000, li_1000000, li_65, li_23, li_neg]
        rw [ic_le_f (by omega) (by omega), pu_sub (by omega), show p + 1 - 1 = p by omega, pu_in (by omega) (by omega), pu_ck, pu_in (by omega) (by omega), pu_ck, pu_cl (by omega), pu_cl (by omega), e0, e1, hw, if_neg w, Option.bind_some, if_pos rfl, hstep]
      rw [qa_lp, hs]
      exact g1
theorem b113 {m : qaM} {H : HS} (c : MH m H) : b_X7_pileUp_113 m = some (if H.P.length = 0 then nM 1 else nI (H.P.getD 0 0), m) := by
  have l8 := c.2.1.2.1
  unfold b_X7_pileUp_113
  simp only [li_0, li_1, li_2, li_3, li_4, li_5, li_6, li_7, li_8, li_9, li_10, li_11, li_12, li_13, li_14, li_15, li_16, li_17, li_18, li_19, li_20, li_30, li_31, li_32, li_33, li_40, li_41, li_42, li_43, li_45, li_48, li_56, li_57, li_59, li_60, li_61, li_64, li_91, li_97, li_99, li_100, li_122, li_150, li_160, li_200, li_201, li_255, li_300, li_303, li_304, li_305, li_306, li_312, li_400, li_500, li_999, li_1003, li_3099, li_99999, li_100000, li_1000000, li_65, li_23, li_neg]
  rw [c.2.1.1]
  by_cases q : H.P.length = 0
  · rw [q, if_pos rfl, if_pos rfl]
  · rw [if_neg q, ic_eq_f q (by omega) (by omega), c.2.1.2.2 0 (by omega)]
theorem r7sortP {m : qaM} {H : HS} {how : Nat} (c : MH m H) (v : HV H) (hh : how ≤ 2) : ∃ m2, b_X7_pileUp_21 m (nI how) = some (if H.P.length = 0 then nM 1 else nI ((bbA (mkZ how H.A) H.P (H.P.length - 1)).getD 0 0), m2) ∧ MH m2 (H.setP (bbA (mkZ how H.A) H.P (H.P.length - 1))) ∧ qF [40] m m2 := by
  have l8 := v.len8
  have hst := nd_st (mk := mkZ how H.A) v.nd
  have c0 : MH m (H.setP (bbA (mkZ how H.A) H.P 0)) := c
  obtain ⟨r, h1, h2, h3, h4⟩ := lp_at (f := fun s : qaM × Int32 => b_X7_pileUp_23 s.1 (nI how) s.2) (fun j s => s.2 = nI (j + 1) ∧ MH s.1 (H.setP (bbA (mkZ how H.A) H.P j)) ∧ qF [40] m s.1) (fun r => r.1 = (if H.P.length = 0 then nM 1 else nI ((bbA (mkZ how H.A) H.P (H.P.length - 1)).getD 0 0)) ∧ MH r.2 (H.setP (bbA (mkZ how H.A) H.P (H.P.length - 1))) ∧ qF [40] m r.2) (H.P.length - 1) (s := (m, nI 1)) ⟨rfl, c0, qF.rf _ _⟩ (by omega) (by
    rintro j ⟨x, k⟩ hj ⟨hk, hc, hf⟩
    have hk2 : k = nI (j + 1) := hk
    subst hk2
    replace hc : MH x (H.setP (bbA (mkZ how H.A) H.P j)) := hc
    replace hf : qF [40] m x := hf
    have hok := bbA_ok hst j hj
    have hl := hok.2.2
    have h5 : x 36 5 = nI H.P.length := by
      rw [← hl]
      exact hc.2.1.1
    show (∃ s', b_X7_pileUp_23 x (nI how) (nI (j + 1)) = some (.inl s') ∧ _) ∨ (∃ q, b_X7_pileUp_23 x (nI how) (nI (j + 1)) = some (.inr q) ∧ _)
    unfold b_X7_pileUp_23
    rw [h5]
    simp only [li_0, li_1, li_2, li_3, li_4, li_5, li_6, li_7, li_8, li_9, li_10, li_11, li_12, li_13, li_14, li_15, li_16, li_17, li_18, li_19, li_20, li_30, li_31, li_32, li_33, li_40, li_41, li_42, li_43, li_45, li_48, li_56, li_57, li_59, li_60, li_61, li_64, li_91, li_97, li_99, li_100, li_122, li_150, li_160, li_200, li_201, li_255, li_300, li_303, li_304, li_305, li_306, li_312, li_400, li_500, li_999, li_1003, li_3099, li_99999, li_100000, li_1000000, li_65, li_23, li_neg]
    rcases Nat.lt_or_ge j (H.P.length - 1) with q | q
    · obtain ⟨x2, g1, g2, g3⟩ := r7pass (m := x) (how := how) (v2 := nI (j + 1)) v hh (H.P.length - 1) (bbA (mkZ how H.A) H.P j) x qa_F (by unfold qa_F; omega) hc (fun y hy => v.lt y (hok.1.1.mem_iff.mp hy)) (by rw [hl]; omega) (qF.rf _ _)
      refine Or.inl ⟨(x2, nI (j + 1 + 1)), ?_, q, rfl, g2, hf.t2 g3 (fun _ z => z)⟩
      rw [ic_le_f (by omega) (by omega), ic_le_f (by omega) (by omega), pu_sub (by omega), pu_let, lp_X7_pileUp_43, g1, pu_add]
    · have hjl : j = H.P.length - 1 := by omega
      have hb := b113 hc
      have e1 : (H.setP (bbA (mkZ how H.A) H.P j)).P = bbA (mkZ how H.A) H.P j := rfl
      rw [e1, hl, hjl] at hb
      refine Or.inr ⟨((if H.P.length = 0 then nM 1 else nI ((bbA (mkZ how H.A) H.P (H.P.length - 1)).getD 0 0)), x), ?_, rfl, by rw [← hjl]; exact hc, hf⟩
      rw [ic_le_t (by omega) (by omega), hb]
      rfl)
  refine ⟨r.2, ?_, h3, h4⟩
  unfold b_X7_pileUp_21
  simp only [li_0, li_1, li_2, li_3, li_4, li_5, li_6, li_7, li_8, li_9, li_10, li_11, li_12, li_13, li_14, li_15, li_16, li_17, li_18, li_19, li_20, li_30, li_31, li_32, li_33, li_40, li_41, li_42, li_43, li_45, li_48, li_56, li_57, li_59, li_60, li_61, li_64, li_91, li_97, li_99, li_100, li_122, li_150, li_160, li_200, li_201, li_255, li_300, li_303, li_304, li_305, li_306, li_312, li_400, li_500, li_999, li_1003, li_3099, li_99999, li_100000, li_1000000, li_65, li_23, li_neg]
  rw [lp_X7_pileUp_23, h1, ← h2]
-- turned over
def upA (P : List Nat) (j : Nat) : List Nat := itN (fun k L => mvA L k 0) j P
theorem upA_ok {P : List Nat} : ∀ j : Nat, j ≤ P.length → (upA P j).Perm P ∧ ∀ a : Nat, (upA P j).getD a 0 = if a < j then P.getD (j - 1 - a) 0 else P.getD a 0 := by
  intro j
  induction j with
  | zero => exact fun _ => ⟨List.Perm.refl _, fun a => by rw [if_neg (by omega)]; rfl⟩
  | succ j ih =>
    intro hj
    obtain ⟨i1, i2⟩ := ih (by omega)
    have hl : j < (upA P j).length := by
      rw [i1.length_eq]
      omega
    have e : upA P (j + 1) = mvA (upA P j) j 0 := rfl
    rw [e]
    refine ⟨(mvA_perm 0 hl).trans i1, fun a => ?_⟩
    rw [mvA_get hl (Nat.zero_le _), if_neg (by omega), i2, i2, i2]
    by_cases a0 : a = 0
    · rw [if_pos a0, if_neg (by omega), if_pos (by omega), a0, show j + 1 - 1 - 0 = j by omega]
    · rw [if_neg a0]
      by_cases aj : a ≤ j
      · rw [if_pos aj, if_pos (by omega), if_pos (by omega), show j - 1 - (a - 1) = j + 1 - 1 - a by omega]
      · rw [if_neg aj, if_neg (by omega), if_neg (by omega)]
theorem kup {m : qaM} {H : HS} (c : CH m 8 H) (v : HV H) : ∃ m2, f_X2_turnsUpsideDown 11 m = some m2 ∧ CH m2 8 (H.setP (upA H.P H.P.length)) ∧ qF [11, 12] m m2 := by
  have l8 := v.len8
  have h11 : m 11 0 = nI H.P.length := c.2.1.1
  have c0 : CH m 8 (H.setP (upA H.P 0)) := c
  obtain ⟨r, h1, h2⟩ := lp_at (f := fun s : qaM × Int32 => b_X2_turnsUpsideDown_7 11 s.1 (nI H.P.length) s.2) (fun j s => s.2 = nI j ∧ CH s.1 8 (H.setP (upA H.P j)) ∧ qF [11, 12] m s.1) (fun r => CH r 8 (H.setP (upA H.P H.P.length)) ∧ qF [11, 12] m r) H.P.length (s := (m, nI 0)) ⟨rfl, c0, qF.rf _ _⟩ (by omega) (by
    rintro j ⟨x, k⟩ hj ⟨hk, hc, hf⟩
    have hk2 : k = nI j := hk
    subst hk2
    replace hc : CH x 8 (H.setP (upA H.P j)) := hc
    replace hf : qF [11, 12] m x := hf
    have hl := (upA_ok j hj).1.length_eq
    show (∃ s', b_X2_turnsUpsideDown_7 11 x (nI H.P.length) (nI j) = some (.inl s') ∧ _) ∨ (∃ q, b_X2_turnsUpsideDown_7 11 x (nI H.P.length) (nI j) = some (.inr q) ∧ _)
    unfold b_X2_turnsUpsideDown_7
    rcases Nat.lt_or_ge j H.P.length with q | q
    · have hlt : j < (upA H.P j).length := by
        rw [hl]
        exact q
      obtain ⟨x1, a1, a2, a3⟩ := cremove (h := 8) (k := j) hc hlt
      have hr : (rmA (upA H.P j) j).length = (upA H.P j).length - 1 := rmA_len hlt
      obtain ⟨x2, b1, b2, b3⟩ := cinsert (h := 8) (k := 0) (i := (upA H.P j).getD j 0) a2 (Nat.zero_le _) (by show (rmA (upA H.P j) j).length < 8; omega)
      have a1' : f_X2_removesAt 11 x (nI j) = some (nI ((upA H.P j).getD j 0), x1) := a1
      have b1' : f_X2_insertsAt 11 x1 (nI 0) (nI ((upA H.P j).getD j 0)) = some x2 := b1
      refine Or.inl ⟨(x2, nI (j + 1)), ?_, q, rfl, b2, (hf.t2 a3 (by simp)).t2 b3 (by simp)⟩
      simp only [li_0, li_1, li_2, li_3, li_4, li_5, li_6, li_7, li_8, li_9, li_10, li_11, li_12, li_13, li_14, li_15, li_16, li_17, li_18, li_19, li_20, li_30, li_31, li_32, li_33, li_40, li_41, li_42, li_43, li_45, li_48, li_56, li_57, li_59, li_60, li_61, li_64, li_91, li_97, li_99, li_100, li_122, li_150, li_160, li_200, li_201, li_255, li_300, li_303, li_304, li_305, li_306, li_312, li_400, li_500, li_999, li_1003, li_3099, li_99999, li_100000, li_1000000, li_65, li_23, li_neg]
      rw [ic_le_f q (by omega), a1', Option.bind_some, b1', Option.bind_some, pu_add, pu_let]
    · have hjl : j = H.P.length := by omega
      subst hjl
      refine Or.inr ⟨x, ?_, hc, hf⟩
      rw [ic_le_t (by omega) (by omega)]
      rfl)
  refine ⟨r, ?_, h2⟩
  unfold f_X2_turnsUpsideDown
  rw [h11, pu_let]
  simp only [li_0, li_1, li_2, li_3, li_4, li_5, li_6, li_7, li_8, li_9, li_10, li_11, li_12, li_13, li_14, li_15, li_16, li_17, li_18, li_19, li_20, li_30, li_31, li_32, li_33, li_40, li_41, li_42, li_43, li_45, li_48, li_56, li_57, li_59, li_60, li_61, li_64, li_91, li_97, li_99, li_100, li_122, li_150, li_160, li_200, li_201, li_255, li_300, li_303, li_304, li_305, li_306, li_312, li_400, li_500, li_999, li_1003, li_3099, li_99999, li_100000, li_1000000, li_65, li_23, li_neg]
  rw [lp_X2_turnsUpsideDown_7, h1]
theorem r7up {m : qaM} {H : HS} (c : MH m H) (v : HV H) : ∃ m2, f_X7_turnsOver m = some m2 ∧ MH m2 (H.setP (upA H.P H.P.length)) ∧ qF [40] m m2 := by
  have l8 := v.len8
  obtain ⟨n, hn⟩ : ∃ n, n = H.P.length := ⟨_, rfl⟩
  have h5 : m 36 5 = nI n := by
    rw [hn]
    exact c.2.1.1
  obtain ⟨r, h1, h2, h3⟩ := lp_at (f := fun s : qaM × Int32 => b_X7_turnsOver_2 s.1 s.2) (fun j s => s.2 = nI j ∧ (∀ a : Nat, a < n → s.1 40 a = if a < j ∨ n ≤ a + j then m 40 (n - 1 - a) else m 40 a) ∧ qF [40] m s.1) (fun r => (∀ a : Nat, a < n → r 40 a = m 40 (n - 1 - a)) ∧ qF [40] m r) (n / 2) (s := (m, nI 0)) ⟨rfl, fun a ha => by rw [if_neg (by omega)], qF.rf _ _⟩ (by omega) (by
    rintro j ⟨x, k⟩ hj ⟨hk, hx, hf⟩
    have hk2 : k = nI j := hk
    subst hk2
    replace hx : ∀ a : Nat, a < n → x 40 a = if a < j ∨ n ≤ a + j then m 40 (n - 1 - a) else m 40 a := hx
    replace hf : qF [40] m x := hf
    have x5 : x 36 5 = nI n := by rw [hf 36 (by simp), h5]
    show (∃ s', b_X7_turnsOver_2 x (nI j) = some (.inl s') ∧ _) ∨ (∃ q, b_X7_turnsOver_2 x (nI j) = some (.inr q) ∧ _)
    unfold b_X7_turnsOver_2
    rw [x5]
    simp only [li_0, li_1, li_2, li_3, li_4, li_5, li_6, li_7, li_8, li_9, li_10, li_11, li_12, li_13, li_14, li_15, li_16, li_17, li_18, li_19, li_20, li_30, li_31, li_32, li_33, li_40, li_41, li_42, li_43, li_45, li_48, li_56, li_57, li_59, li_60, li_61, li_64, li_91, li_97, li_99, li_100, li_122, li_150, li_160, li_200, li_201, li_255, li_300, li_303, li_304, li_305, li_306, li_312, li_400, li_500, li_999, li_1003, li_3099, li_99999, li_100000, li_1000000, li_65, li_23, li_neg]
    rw [pu_dv (by omega) (by omega) (by omega)]
    rcases Nat.lt_or_ge j (n / 2) with q | q
    · have y5 : qa_st x 40 j (x 40 (n - 1 - j)) 36 5 = nI n := by rw [st_n (by omega), x5]
      refine Or.inl ⟨(qa_st (qa_st x 40 j (x 40 (n - 1 - j))) 40 (n - 1 - j) (x 40 j), nI (j + 1)), ?_, q, rfl, fun a ha => ?_, (hf.stl (by simp)).stl (by simp)⟩
      · rw [ic_le_f q (by omega), pu_in (by omega) (by omega), pu_ck, pu_cl (by omega), pu_let, pu_sub (by omega), pu_sub (by omega), pu_in (by omega) (by omega), pu_ck, pu_ck, pu_cl (by omega), pu_let, y5, pu_sub (by omega), pu_sub (by omega), pu_in (by omega) (by omega), pu_ck, pu_cl (by omega), pu_let, pu_add, pu_let]
      · show qa_st (qa_st x 40 j (x 40 (n - 1 - j))) 40 (n - 1 - j) (x 40 j) 40 a = _
        rw [st_s, st_s]
        by_cases a1 : a = n - 1 - j
        · rw [a1, up_s, hx j (by omega), if_neg (by omega), if_pos (by omega), show n - 1 - (n - 1 - j) = j by omega]
        · rw [up_n a1]
          by_cases a2 : a = j
          · rw [a2, up_s, hx _ (by omega), if_neg (by omega), if_pos (by omega)]
          · rw [up_n a2, hx a ha]
            by_cases w : a < j ∨ n ≤ a + j
            · rw [if_pos w, if_pos (by omega)]
            · rw [if_neg w, if_neg (by omega)]
    · refine Or.inr ⟨x, ?_, fun a ha => ?_, hf⟩
      · rw [ic_le_t (by omega) (by omega)]
        rfl
      · show x 40 a = _
        rw [hx a ha]
        by_cases w : a < j ∨ n ≤ a + j
        · rw [if_pos w]
        · rw [if_neg w, show n - 1 - a = a by omega])
  have hu := upA_ok (P := H.P) H.P.length (Nat.le_refl _)
  have hul := hu.1.length_eq
  refine ⟨r, ?_, c.P2 (h3.mo (by simp)) ⟨?_, by rw [hul]; exact l8, fun a ha => ?_⟩ (by rw [h3 36 (by simp)]) (by rw [h3 36 (by simp)]) (by rw [h3 36 (by simp)]), h3⟩
  · unfold f_X7_turnsOver
    simp only [li_0, li_1, li_2, li_3, li_4, li_5, li_6, li_7, li_8, li_9, li_10, li_11, li_12, li_13, li_14, li_15, li_16, li_17, li_18, li_19, li_20, li_30, li_31, li_32, li_33, li_40, li_41, li_42, li_43, li_45, li_48, li_56, li_57, li_59, li_60, li_61, li_64, li_91, li_97, li_99, li_100, li_122, li_150, li_160, li_200, li_201, li_255, li_300, li_303, li_304, li_305, li_306, li_312, li_400, li_500, li_999, li_1003, li_3099, li_99999, li_100000, li_1000000, li_65, li_23, li_neg]
    rw [lp_X7_turnsOver_2, h1]
  · rw [h3 36 (by simp), hul]
    exact c.2.1.1
  · rw [hul] at ha
    rw [h2 a (by omega), hu.2 a, if_pos ha, hn]
    exact c.2.1.2.2 _ (by omega)
theorem lp_one {σ ρ : Type} {f : σ → Option (σ ⊕ ρ)} {r : ρ} {s0 : σ} (hf : f s0 = some (.inr r)) : qa_lp f qa_F s0 = some r := by
  show qa_lp f (1999 + 1) s0 = some r
  rw [qa_lp, hf]
theorem qp_pileUp : qaP_pileUp Rel := by
  intro m a h
  obtain ⟨H, N, S, hD⟩ := h
  have ⟨c, r, v, hl, hw, t, _, _, sh, nt⟩ := hD
  have n8 := v.n8
  have l8 := v.len8
  rcases upTo 3 4 rfl (by omega) a with ⟨k, hk, rfl⟩ | hx
  rotate_left
  · rcases hx with ⟨h1, h2, h3, h4, h5, h6⟩ | ⟨h1, h2, h3, h4, h5, h6⟩
    all_goals
      refine ⟨nM 2, m, m, ?_, ?_, Rel.mk hD⟩
      · ((try simp only [f_X6_pileUp, f_X6_isWeeks, f_X6_isSheet, f_X6_isSeed, f_X6_isByte, h1, h2, h3, h4, h5, h6, li_0, li_1, li_2, li_3, li_4, li_5, li_6, li_7, li_8, li_9, li_10, li_11, li_12, li_13, li_14, li_15, li_16, li_17, li_18, li_19, li_20, li_30, li_31, li_32, li_33, li_40, li_41, li_42, li_43, li_45, li_48, li_56, li_57, li_59, li_60, li_61, li_64, li_91, li_97, li_99, li_100, li_122, li_150, li_160, li_200, li_201, li_255, li_300, li_303, li_304, li_305, li_306, li_312, li_400, li_500, li_999, li_1003, li_3099, li_99999, li_100000, li_1000000, li_65, li_23, li_neg]); (try simp (disch := omega) only [f_X6_pileUp, f_X6_isWeeks, f_X6_isSheet, f_X6_isSeed, f_X6_isByte, h1, h2, h3, h4, h5, h6, ic_le_f, ic_le_t, ic_lt_f, ic_lt_t, ic_eq_f, ic_eq_t, ic_im, ic_mi, ic_mm_t, ic_mm_f, ic_mlt, ic_mle, ic_ilem, ic_iltm, ic_mmle_t, ic_mmle_f, pu_add, pu_mul, pu_in, pu_ck, pu_let, pu_cl, pu_cpok, pu_inr, Option.bind_some, ite_true, ite_false, pu_dm, pu_dv, pu_sub, nt_dm, if_true, if_false]))
      · ((try simp only [f_X7_pileUp, f_X7_in, f_X7_areWeeks, f_X7_isByte, qa_bl0, qa_bl1, h1, h2, h3, h4, h5, h6, li_0, li_1, li_2, li_3, li_4, li_5, li_6, li_7, li_8, li_9, li_10, li_11, li_12, li_13, li_14, li_15, li_16, li_17, li_18, li_19, li_20, li_30, li_31, li_32, li_33, li_40, li_41, li_42, li_43, li_45, li_48, li_56, li_57, li_59, li_60, li_61, li_64, li_91, li_97, li_99, li_100, li_122, li_150, li_160, li_200, li_201, li_255, li_300, li_303, li_304, li_305, li_306, li_312, li_400, li_500, li_999, li_1003, li_3099, li_99999, li_100000, li_1000000, li_65, li_23, li_neg]); (try simp (disch := omega) only [f_X7_pileUp, f_X7_in, f_X7_areWeeks, f_X7_isByte, qa_bl0, qa_bl1, h1, h2, h3, h4, h5, h6, ic_le_f, ic_le_t, ic_lt_f, ic_lt_t, ic_eq_f, ic_eq_t, ic_im, ic_mi, ic_mm_t, ic_mm_f, ic_mlt, ic_mle, ic_ilem, ic_iltm, ic_mmle_t, ic_mmle_f, pu_add, pu_mul, pu_in, pu_ck, pu_let, pu_cl, pu_cpok, pu_inr, Option.bind_some, ite_true, ite_false, pu_dm, pu_dv, pu_sub, nt_dm, if_true, if_false]))
  -- both end with the same pile
  have hend : ∀ (L : List Nat) (m1 m2 : qaM), L.Perm H.P → CH m1 8 (H.setP L) → qF [11, 12] m m1 → MH m2 (H.setP L) → qF [40] m1 m2 → b_X6_pileUp_38 m1 = some (if H.P.length = 0 then nM 1 else nI (L.getD 0 0), m1) ∧ Rel m2 := by
    intro L m1 m2 hp c1 f1 c2 f2
    have hle := hp.length_eq
    refine ⟨?_, ?_⟩
    · unfold b_X6_pileUp_38
      simp only [li_0, li_1, li_2, li_3, li_4, li_5, li_6, li_7, li_8, li_9, li_10, li_11, li_12, li_13, li_14, li_15, li_16, li_17, li_18, li_19, li_20, li_30, li_31, li_32, li_33, li_40, li_41, li_42, li_43, li_45, li_48, li_56, li_57, li_59, li_60, li_61, li_64, li_91, li_97, li_99, li_100, li_122, li_150, li_160, li_200, li_201, li_255, li_300, li_303, li_304, li_305, li_306, li_312, li_400, li_500, li_999, li_1003, li_3099, li_99999, li_100000, li_1000000, li_65, li_23, li_neg]
      by_cases q : H.P.length = 0
      · have := at_out (c := 11) (j := 0) c1.2.1 (by show L.length ≤ 0; omega) (by omega)
        rw [this, if_pos q, Option.bind_some]
      · have := at_ok (c := 11) (j := 0) c1.2.1 (by show 0 < L.length; omega)
        rw [this, if_neg q, Option.bind_some]
        rfl
    · have vL : HV (H.setP L) := v.setP (hp.nodup_iff.mpr v.nd) (fun x hx => v.lt x (hp.mem_iff.mp hx)) (fun x hx => v.fr x (hp.mem_iff.mp hx))
      exact Rel.mut hD ((f1.mo (by simp)).t2 f2 (by simp)) (o36l.q (k := _) (l := [11, 12, 40]) ((f1.mo (by simp)).t2 f2 (by simp)) (by simp)) (c1.rf f2 (by omega) (by simp)) c2 vL hl hw (Nat.le_refl _) (fun _ _ => ⟨rfl, rfl⟩) (nt.F ((f2 8 (by decide)).trans (f1 8 (by decide))) rfl)
  by_cases k3 : k = 3
  · subst k3
    obtain ⟨m1, a1, a2, a3⟩ := kup c v
    have r1 : MH m1 H := r.cl a3 (by simp)
    obtain ⟨m2, b1, b2, b3⟩ := r7up r1 v
    have hu := upA_ok (P := H.P) H.P.length (Nat.le_refl _)
    obtain ⟨e1, e2⟩ := hend _ m1 m2 hu.1 a2 a3 b2 b3
    have hb := b113 b2
    have e3 : (H.setP (upA H.P H.P.length)).P = upA H.P H.P.length := rfl
    rw [e3, hu.1.length_eq] at hb
    refine ⟨(if H.P.length = 0 then nM 1 else nI ((upA H.P H.P.length).getD 0 0)), m1, m2, ?_, ?_, e2⟩
    · unfold f_X6_pileUp
      simp only [li_0, li_1, li_2, li_3, li_4, li_5, li_6, li_7, li_8, li_9, li_10, li_11, li_12, li_13, li_14, li_15, li_16, li_17, li_18, li_19, li_20, li_30, li_31, li_32, li_33, li_40, li_41, li_42, li_43, li_45, li_48, li_56, li_57, li_59, li_60, li_61, li_64, li_91, li_97, li_99, li_100, li_122, li_150, li_160, li_200, li_201, li_255, li_300, li_303, li_304, li_305, li_306, li_312, li_400, li_500, li_999, li_1003, li_3099, li_99999, li_100000, li_1000000, li_65, li_23, li_neg]
      rw [if_neg (nI_nlt (Nat.zero_le _) (by omega)), if_pos (nI_le hk (by omega)), if_pos trivial, a1, Option.bind_some, e1]
    · have hlp : lp_X7_pileUp_23 m2 (nI 3) (nI 1) = b_X7_pileUp_113 m2 := by
        rw [lp_X7_pileUp_23, hb]
        refine lp_one ?_
        show b_X7_pileUp_23 m2 (nI 3) (nI 1) = _
        unfold b_X7_pileUp_23
        simp only [li_0, li_1, li_2, li_3, li_4, li_5, li_6, li_7, li_8, li_9, li_10, li_11, li_12, li_13, li_14, li_15, li_16, li_17, li_18, li_19, li_20, li_30, li_31, li_32, li_33, li_40, li_41, li_42, li_43, li_45, li_48, li_56, li_57, li_59, li_60, li_61, li_64, li_91, li_97, li_99, li_100, li_122, li_150, li_160, li_200, li_201, li_255, li_300, li_303, li_304, li_305, li_306, li_312, li_400, li_500, li_999, li_1003, li_3099, li_99999, li_100000, li_1000000, li_65, li_23, li_neg]
        rw [ic_le_t (a := 3) (by omega) (by omega), hb]
        split <;> rfl
      unfold f_X7_pileUp
      simp only [li_0, li_1, li_2, li_3, li_4, li_5, li_6, li_7, li_8, li_9, li_10, li_11, li_12, li_13, li_14, li_15, li_16, li_17, li_18, li_19, li_20, li_30, li_31, li_32, li_33, li_40, li_41, li_42, li_43, li_45, li_48, li_56, li_57, li_59, li_60, li_61, li_64, li_91, li_97, li_99, li_100, li_122, li_150, li_160, li_200, li_201, li_255, li_300, li_303, li_304, li_305, li_306, li_312, li_400, li_500, li_999, li_1003, li_3099, li_99999, li_100000, li_1000000, li_65, li_23, li_neg]
      rw [in7_ok hk (by omega), Option.bind_some, if_neg n10, if_pos trivial, b1, Option.bind_some]
      unfold b_X7_pileUp_21
      simp only [li_0, li_1, li_2, li_3, li_4, li_5, li_6, li_7, li_8, li_9, li_10, li_11, li_12, li_13, li_14, li_15, li_16, li_17, li_18, li_19, li_20, li_30, li_31, li_32, li_33, li_40, li_41, li_42, li_43, li_45, li_48, li_56, li_57, li_59, li_60, li_61, li_64, li_91, li_97, li_99, li_100, li_122, li_150, li_160, li_200, li_201, li_255, li_300, li_303, li_304, li_305, li_306, li_312, li_400, li_500, li_999, li_1003, li_3099, li_99999, li_100000, li_1000000, li_65, li_23, li_neg]
      rw [hlp, hb]
  · have hk2 : k ≤ 2 := by omega
    obtain ⟨m1, a1, a2, a3⟩ := ksorts (how := k) c v hk2
    have r1 : MH m1 H := r.cl a3 (by simp)
    obtain ⟨m2, b1, b2, b3⟩ := r7sortP (how := k) r1 v hk2
    have hse := sorts_eq (mk := mkZ k H.A) v.nd
    have hok := isA_ok (nd_st (mk := mkZ k H.A) v.nd) (H.P.length - 1) (Nat.le_refl _)
    rw [← hse] at b1 b2
    obtain ⟨e1, e2⟩ := hend _ m1 m2 hok.1.1 a2 a3 b2 b3
    have hne : ¬ nI k = nI 3 := fun z => k3 ((nI_eq (by omega) (by omega)).mp z)
    refine ⟨(if H.P.length = 0 then nM 1 else nI ((isA (mkZ k H.A) H.P (H.P.length - 1)).getD 0 0)), m1, m2, ?_, ?_, e2⟩
    · unfold f_X6_pileUp
      simp only [li_0, li_1, li_2, li_3, li_4, li_5, li_6, li_7, li_8, li_9, li_10, li_11, li_12, li_13, li_14, li_15, li_16, li_17, li_18, li_19, li_20, li_30, li_31, li_32, li_33, li_40, li_41, li_42, li_43, li_45, li_48, li_56, li_57, li_59, li_60, li_61, li_64, li_91, li_97, li_99, li_100, li_122, li_150, li_160, li_200, li_201, li_255, li_300, li_303, li_304, li_305, li_306, li_312, li_400, li_500, li_999, li_1003, li_3099, li_99999, li_100000, li_1000000, li_65, li_23, li_neg]
      rw [if_neg (nI_nlt (Nat.zero_le _) (by omega)), if_pos (nI_le hk (by omega)), if_neg hne, a1, Option.bind_some, e1]
    · unfold f_X7_pileUp
      simp only [li_0, li_1, li_2, li_3, li_4, li_5, li_6, li_7, li_8, li_9, li_10, li_11, li_12, li_13, li_14, li_15, li_16, li_17, li_18, li_19, li_20, li_30, li_31, li_32, li_33, li_40, li_41, li_42, li_43, li_45, li_48, li_56, li_57, li_59, li_60, li_61, li_64, li_91, li_97, li_99, li_100, li_122, li_150, li_160, li_200, li_201, li_255, li_300, li_303, li_304, li_305, li_306, li_312, li_400, li_500, li_999, li_1003, li_3099, li_99999, li_100000, li_1000000, li_65, li_23, li_neg]
      rw [in7_ok hk (by omega), Option.bind_some, if_neg n10, if_neg hne, b1]
