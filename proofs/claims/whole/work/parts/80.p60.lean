/-! PURE: when, the call -/
theorem gtF_le {S : SF} {H : HS} {i n t : Nat} (v : HV H) (hi : i < H.n) : gtF S H i n t ≤ n := by
  have hg0 := gnF_0 (S := S) (R := H.R) (i := i) n (ty0 H) (ty0_V v) hi
  unfold gtF
  by_cases w : t < n ∧ mayA (thk S t H).1 i = true
  · rw [if_pos w]
    have hv2 := thk_V (S := S) (n := t) v
    have := gnF_0 (S := S) (R := H.R) (i := i) (n - t) (turnT i (thk S t H)) (turnT_V hv2.1 (by rw [hv2.2.1]; exact hi)) (by show i < (thk S t H).1.n; rw [hv2.2.1]; exact hi)
    have h5 : (turnT i (thk S t H)).2.2.2.2 = t := thk_li v
    omega
  · rw [if_neg w]
    have h5 : (ty0 H).2.2.2.2 = 0 := rfl
    omega
theorem vGn_le {n G : Nat} (h : G ≤ n) : vGn n G ≤ n := by
  unfold vGn
  split <;> omega
/-- the class: turned ahead of week a -/
theorem kbranch {m0 x : qaM} {H : HS} {S : SF} {i a n N : Nat} (cy : CY x 20 (thk S a H)) (v : HV H) (t : TXc x N S) (sv : SV S) (hN : H.lw < N) (hi : i < H.n) (ha : a < n) (hn : n ≤ 60) (hm : mayA (thk S a H).1 i = true) (f : qF kM m0 x) :
    ∃ y0 y1 y2 p, f_X0_beginsAs 26 20 x = some y0 ∧ f_X0_turnsOver 26 y0 (nI i) = some y1 ∧ f_X0_weekOfCloths 26 y1 (nI i) (nI (n - a)) = some (nI p, y2) ∧ a + p = vGn n (gtF S H i n a) ∧ CY y2 20 (thk S a H) ∧ qF kM m0 y2 := by
  have n8 := v.n8
  have hr := v.rs
  have hv := thk_V (S := S) (n := a) v
  have hin : i < (thk S a H).1.n := by rw [hv.2.1]; exact hi
  obtain ⟨y0, a1, a2, a3⟩ := kbegins (h := 26) (g := 20) cy.1 (by omega)
  obtain ⟨y1, b1, b2, b3⟩ := kturnsOver (h := 26) (i := i) a2.1 hv.1.1 (by omega)
  have t1 : TXc y1 N S := (t.F a3 (by simp) (by simp) (by simp)).F b3 (by simp) (by simp) (by simp)
  have hfr := hv.1.1.fr i (mayA_o hm).2
  have h7 : (turnA (thk S a H).1 i).A i 7 = 0 := by
    unfold turnA
    rw [setA_s, aU_n (by omega), aU_n (by omega)]
    exact hfr.2
  have tvA := turnA_V (i := i) hv.1.1 hin
  obtain ⟨y2, p, c1, c2, c3, c4⟩ := kcloths (m := y1) (h := 26) (i := i) (H := H) (S := S) (N := N) (by omega) sv (by omega) (n - a) (ty0 (turnA (thk S a H).1 i)) ⟨b2, a2.2.F b3 (by simp)⟩ (ty0_V tvA) ⟨hv.2.1, hv.2.2.1, hv.2.2.2⟩ hin t1 hN hr.1 hr.2.2.1 (by omega) (by show 0 < 2 ^ 19; omega) h7
  have hf : qF [4, 5, 26, 27, 28, 29, 30, 31] x y2 := ((a3.mo (by simp)).t2 b3 (by simp)).t2 c4 (by simp)
  refine ⟨y0, y1, y2, p, a1, b1, c1, ?_, ⟨cy.1.F hf (by decide) (by decide) (by decide) (by decide) (by decide) (by decide), cy.2.F hf (by decide)⟩, f.t2 hf (by simp [kM])⟩
  have hgt : gtF S H i n a = gnF S H.R i 0 (n - a) (turnT i (thk S a H)) := by
    unfold gtF
    rw [if_pos ⟨ha, hm⟩]
  have hsh := gnF_sh (S := S) (R := H.R) (i := i) (a := a) (n - a) 0 (turnT i (thk S a H)) (ty0 (turnA (thk S a H).1 i)) rfl (by
    show (thk S a H).2.2.2.2 = 0 + a
    rw [thk_li v]
    omega)
  have h00 : shG a 0 = 0 := rfl
  have h02 : (ty0 (turnA (thk S a H).1 i)).2.2.2.2 = 0 := rfl
  rw [h00] at hsh
  rw [hgt, hsh, c2, h02]
  by_cases w : p = n - a
  · rw [if_pos w]
    show a + p = n
    omega
  · have e : shG a (0 + p + 1) = p + 1 + a := by
      unfold shG
      rw [if_neg (by omega)]
      omega
    rw [if_neg w, e]
    unfold vGn
    rw [if_neg (by omega)]
    omega
theorem qp_when : qaP_when Rel := by
  intro m a b d h
  obtain ⟨H, N, S, hD⟩ := h
  have ⟨c, r, v, hl, hw, t, _, _, _, nt⟩ := hD
  have n8 := v.n8
  have hr := v.rs
  have hno : f_X6_isLinen m a = some (nI 0) → f_X7_isLinen m a = some (nI 0) → ∃ x m1 m2, f_X6_when m a b d = some (x, m1) ∧ f_X7_when m1 a b d = some (x, m2) ∧ Rel m2 := by
    intro e1 e2
    refine ⟨nM 5, m, m, ?_, ?_, Rel.mk hD⟩
    · unfold f_X6_when
      rw [e1]
      ((try simp only [li_0, li_1, li_2, li_3, li_4, li_5, li_6, li_7, li_8, li_9, li_10, li_11, li_12, li_13, li_14, li_15, li_16, li_17, li_18, li_19, li_20, li_30, li_31, li_32, li_33, li_40, li_41, li_42, li_43, li_45, li_48, li_56, li_57, li_59, li_60, li_61, li_64, li_91, li_97, li_99, li_100, li_122, li_150, li_160, li_200, li_201, li_255, li_300, li_303, li_304, li_305, li_306, li_312, li_400, li_500, li_999, li_1003, li_3099, li_99999, li_100000, li_1000000, li_65, li_23, li_neg]); (try simp (disch := omega) only [ic_le_f, ic_le_t, ic_lt_f, ic_lt_t, ic_eq_f, ic_eq_t, ic_im, ic_mi, ic_mm_t, ic_mm_f, ic_mlt, ic_mle, ic_ilem, ic_iltm, ic_mmle_t, ic_mmle_f, pu_add, pu_mul, pu_in, pu_ck, pu_let, pu_cl, pu_cpok, pu_inr, Option.bind_some, ite_true, ite_false, pu_dm, pu_dv, pu_sub, nt_dm, if_true, if_false]))
    · unfold f_X7_when
      rw [e2]
      ((try simp only [li_0, li_1, li_2, li_3, li_4, li_5, li_6, li_7, li_8, li_9, li_10, li_11, li_12, li_13, li_14, li_15, li_16, li_17, li_18, li_19, li_20, li_30, li_31, li_32, li_33, li_40, li_41, li_42, li_43, li_45, li_48, li_56, li_57, li_59, li_60, li_61, li_64, li_91, li_97, li_99, li_100, li_122, li_150, li_160, li_200, li_201, li_255, li_300, li_303, li_304, li_305, li_306, li_312, li_400, li_500, li_999, li_1003, li_3099, li_99999, li_100000, li_1000000, li_65, li_23, li_neg]); (try simp (disch := omega) only [ic_le_f, ic_le_t, ic_lt_f, ic_lt_t, ic_eq_f, ic_eq_t, ic_im, ic_mi, ic_mm_t, ic_mm_f, ic_mlt, ic_mle, ic_ilem, ic_iltm, ic_mmle_t, ic_mmle_f, pu_add, pu_mul, pu_in, pu_ck, pu_let, pu_cl, pu_cpok, pu_inr, Option.bind_some, ite_true, ite_false, pu_dm, pu_dv, pu_sub, nt_dm, if_true, if_false]))
  rcases anyI a with q | ⟨i, hi, rfl⟩
  · exact hno (kisLinen_n q) (r7isLinen_n q)
  by_cases z : i < H.n
  rotate_left
  · exact hno (by rw [kisLinen c hi, if_neg z]) (by rw [r7isLinen r n8 hi, if_neg z])
  have e1 : f_X6_isLinen m (nI i) = some (nI 1) := by rw [kisLinen c hi, if_pos z]
  have e2 : ∀ x, MH x H → f_X7_isLinen x (nI i) = some (nI 1) := fun x hx => by rw [r7isLinen hx n8 hi, if_pos z]
  have hi8 : i < 8 := by omega
  -- n
  have hbadn : (b < nI 1 ∨ (¬ b < nI 1 ∧ nI 60 < b)) → f_X7_in m b (nI 1) (nI 60) = some (nI 0) → ∃ x m1 m2, f_X6_when m (nI i) b d = some (x, m1) ∧ f_X7_when m1 (nI i) b d = some (x, m2) ∧ Rel m2 := by
    intro h1 h2
    refine ⟨nM 7, m, m, ?_, ?_, Rel.mk hD⟩
    · unfold f_X6_when
      simp only [li_0, li_1, li_2, li_3, li_4, li_5, li_6, li_7, li_8, li_9, li_10, li_11, li_12, li_13, li_14, li_15, li_16, li_17, li_18, li_19, li_20, li_30, li_31, li_32, li_33, li_40, li_41, li_42, li_43, li_45, li_48, li_56, li_57, li_59, li_60, li_61, li_64, li_91, li_97, li_99, li_100, li_122, li_150, li_160, li_200, li_201, li_255, li_300, li_303, li_304, li_305, li_306, li_312, li_400, li_500, li_999, li_1003, li_3099, li_99999, li_100000, li_1000000, li_65, li_23, li_neg]
      rw [e1, Option.bind_some, if_neg n10]
      rcases h1 with w | ⟨w, w2⟩
      · rw [if_pos w]
      · rw [if_neg w, if_pos w2]
    · unfold f_X7_when
      simp only [li_0, li_1, li_2, li_3, li_4, li_5, li_6, li_7, li_8, li_9, li_10, li_11, li_12, li_13, li_14, li_15, li_16, li_17, li_18, li_19, li_20, li_30, li_31, li_32, li_33, li_40, li_41, li_42, li_43, li_45, li_48, li_56, li_57, li_59, li_60, li_61, li_64, li_91, li_97, li_99, li_100, li_122, li_150, li_160, li_200, li_201, li_255, li_300, li_303, li_304, li_305, li_306, li_312, li_400, li_500, li_999, li_1003, li_3099, li_99999, li_100000, li_1000000, li_65, li_23, li_neg]
      rw [e2 m r, Option.bind_some, if_neg n10, h2, Option.bind_some, if_pos rfl]
  rcases anyI b with q | ⟨n, hn, rfl⟩
  · refine hbadn (Or.inl ?_) (r7in_n q (by omega))
    rw [Int32.lt_iff_toInt_lt] at q ⊢
    rw [pu_t (by omega)]
    have h0 : (0 : Int32).toInt = 0 := by decide
    omega
  rcases Nat.eq_zero_or_pos n with hn0 | hn0
  · subst hn0
    exact hbadn (Or.inl (nI_lt (by omega) (by omega))) (by rw [r7in (by omega) (by omega) (by omega), if_neg (by omega)])
  rcases Nat.lt_or_ge 60 n with hn6 | hn6
  · exact hbadn (Or.inr ⟨nI_nlt (by omega) (by omega), nI_lt hn6 hn⟩) (by rw [r7in (by omega) (by omega) (by omega), if_neg (by omega)])
  have ein : ∀ x, f_X7_in x (nI n) (nI 1) (nI 60) = some (nI 1) := fun x => by rw [r7in (by omega) (by omega) (by omega), if_pos ⟨hn0, hn6⟩]
  -- what
  rcases upTo 1 2 rfl (by omega) d with ⟨k, hk, rfl⟩ | hx
  rotate_left
  · refine ⟨nM 7, m, m, ?_, ?_, Rel.mk hD⟩
    · unfold f_X6_when
      simp only [li_0, li_1, li_2, li_3, li_4, li_5, li_6, li_7, li_8, li_9, li_10, li_11, li_12, li_13, li_14, li_15, li_16, li_17, li_18, li_19, li_20, li_30, li_31, li_32, li_33, li_40, li_41, li_42, li_43, li_45, li_48, li_56, li_57, li_59, li_60, li_61, li_64, li_91, li_97, li_99, li_100, li_122, li_150, li_160, li_200, li_201, li_255, li_300, li_303, li_304, li_305, li_306, li_312, li_400, li_500, li_999, li_1003, li_3099, li_99999, li_100000, li_1000000, li_65, li_23, li_neg]
      rw [e1, Option.bind_some, if_neg n10, if_neg (nI_nlt hn0 (by omega)), if_neg (nI_nlt hn6 (by omega))]
      rcases hx with ⟨h1, h2, h3, h4, h5, h6⟩ | ⟨h1, h2, h3, h4, h5, h6⟩
      · rw [if_pos (of_eq_true h1)]
      · rw [if_neg (of_eq_false h1), if_neg (of_eq_false h2)]
    · unfold f_X7_when
      simp only [li_0, li_1, li_2, li_3, li_4, li_5, li_6, li_7, li_8, li_9, li_10, li_11, li_12, li_13, li_14, li_15, li_16, li_17, li_18, li_19, li_20, li_30, li_31, li_32, li_33, li_40, li_41, li_42, li_43, li_45, li_48, li_56, li_57, li_59, li_60, li_61, li_64, li_91, li_97, li_99, li_100, li_122, li_150, li_160, li_200, li_201, li_255, li_300, li_303, li_304, li_305, li_306, li_312, li_400, li_500, li_999, li_1003, li_3099, li_99999, li_100000, li_1000000, li_65, li_23, li_neg]
      rw [e2 m r, Option.bind_some, if_neg n10, ein, Option.bind_some, if_neg n10, hx.in7, Option.bind_some, if_pos rfl]
  obtain ⟨mT, hmT⟩ : ∃ mT : Nat → Bool, ∀ a, mT a = mayA (thk S a H).1 i := ⟨_, fun _ => rfl⟩
  obtain ⟨vT, hvT⟩ : ∃ vT : Nat → Nat, ∀ a, vT a = vGn n (gtF S H i n a) := ⟨_, fun _ => rfl⟩
  have hvn : ∀ a, vT a ≤ n := fun a => by
    rw [hvT]
    exact vGn_le (gtF_le v z)
  obtain ⟨v0, hv0⟩ : ∃ v0 : Nat, v0 = vGn n (gtF S H i n n) := ⟨_, rfl⟩
  have hv0n : v0 ≤ n := by
    rw [hv0]
    exact vGn_le (gtF_le v z)
  have hg0 : gtF S H i n n = gnF S H.R i 0 n (ty0 H) := by
    unfold gtF
    rw [if_neg (fun w => by omega)]
  obtain ⟨ans, hans⟩ : ∃ ans : Int32, ans = if k = 0 then plI (wbF mT vT n) else if wbF mT vT n = 0 then nI v0 else nI (vT (wbF mT vT n - 1)) := ⟨_, rfl⟩
  obtain ⟨x0, a1, a2, a3⟩ := kbegins (h := 20) c (by omega)
  have a3' : qF kM m x0 := a3.mo (by simp [kM])
  obtain ⟨r1, b1, b2, b3⟩ := lp_at (f := fun s : qaM × Int32 × Int32 × Int32 => b_X6_when_54 s.1 (nI i) (nI n) (nI k) s.2.1 s.2.2.1 s.2.2.2) (fun j s => s.2 = (plI (wbF mT vT j), (if wbF mT vT j = 0 then nM 1 else nI (vT (wbF mT vT j - 1))), nI j) ∧ CY s.1 20 (thk S j H) ∧ qF kM m s.1) (fun q => q.1 = ans ∧ qF kM m q.2) n (s := (x0, nM 1, nM 1, nI 0)) ⟨rfl, a2, a3'⟩ (by omega) (by
    rintro j ⟨x, k2⟩ hj ⟨hk2, cy, hf⟩
    have hk3 : k2 = (plI (wbF mT vT j), (if wbF mT vT j = 0 then nM 1 else nI (vT (wbF mT vT j - 1))), nI j) := hk2
    replace cy : CY x 20 (thk S j H) := cy
    replace hf : qF kM m x := hf
    subst hk3
    show (∃ s', b_X6_when_54 x (nI i) (nI n) (nI k) (plI (wbF mT vT j)) (if wbF mT vT j = 0 then nM 1 else nI (vT (wbF mT vT j - 1))) (nI j) = some (.inl s') ∧ _) ∨ (∃ q, b_X6_when_54 x (nI i) (nI n) (nI k) (plI (wbF mT vT j)) (if wbF mT vT j = 0 then nM 1 else nI (vT (wbF mT vT j - 1))) (nI j) = some (.inr q) ∧ _)
    have hble := wbF_le mT vT j
    have hvx := thk_V (S := S) (n := j) v
    have tx : TXc x N S := t.2.2.2.2.1.F hf (by decide) (by decide) (by decide)
    have h122 : ∀ (y : qaM) (p q : Int32), CY y 20 (thk S j H) → qF kM m y → ∃ y2, b_X6_when_122 y (nI i) (nI n) (nI k) p q (nI j) = some (.inl (y2, p, q, nI (j + 1))) ∧ CY y2 20 (thk S (j + 1) H) ∧ qF kM m y2 := by
      intro y p q cyy fy
      obtain ⟨y2, g1, g2, g3⟩ := kweeks (n := 1) cyy hvx.1 (by omega) (t.2.2.2.2.1.F fy (by decide) (by decide) (by decide)) t.2.2.2.2.2.2 (by rw [hvx.2.2.2]; exact hl) (by omega) (by rw [thk_li v]; omega)
      rw [thk_s v] at g2
      refine ⟨y2, ?_, g2, fy.t2 g3 (by simp [kM])⟩
      unfold b_X6_when_122
      simp only [li_0, li_1, li_2, li_3, li_4, li_5, li_6, li_7, li_8, li_9, li_10, li_11, li_12, li_13, li_14, li_15, li_16, li_17, li_18, li_19, li_20, li_30, li_31, li_32, li_33, li_40, li_41, li_42, li_43, li_45, li_48, li_56, li_57, li_59, li_60, li_61, li_64, li_91, li_97, li_99, li_100, li_122, li_150, li_160, li_200, li_201, li_255, li_300, li_303, li_304, li_305, li_306, li_312, li_400, li_500, li_999, li_1003, li_3099, li_99999, li_100000, li_1000000, li_65, li_23, li_neg]
      rw [g1, Option.bind_some]
      ((try simp only [li_0, li_1, li_2, li_3, li_4, li_5, li_6, li_7, li_8, li_9, li_10, li_11, li_12, li_13, li_14, li_15, li_16, li_17, li_18, li_19, li_20, li_30, li_31, li_32, li_33, li_40, li_41, li_42, li_43, li_45, li_48, li_56, li_57, li_59, li_60, li_61, li_64, li_91, li_97, li_99, li_100, li_122, li_150, li_160, li_200, li_201, li_255, li_300, li_303, li_304, li_305, li_306, li_312, li_400, li_500, li_999, li_1003, li_3099, li_99999, li_100000, li_1000000, li_65, li_23, li_neg]); (try simp (disch := omega) only [ic_le_f, ic_le_t, ic_lt_f, ic_lt_t, ic_eq_f, ic_eq_t, ic_im, ic_mi, ic_mm_t, ic_mm_f, ic_mlt, ic_mle, ic_ilem, ic_iltm, ic_mmle_t, ic_mmle_f, pu_add, pu_mul, pu_in, pu_ck, pu_let, pu_cl, pu_cpok, pu_inr, Option.bind_some, ite_true, ite_false, pu_dm, pu_dv, pu_sub, nt_dm, if_true, if_false]))
    unfold b_X6_when_54
    rcases Nat.lt_or_ge j n with q | q
    · have hct := kcanTurn (h := 20) (i := i) cy.1 hvx.1.1 hi8
      by_cases y : mayA (thk S j H).1 i = true
      · rw [if_pos y] at hct
        have hmj : mT j = true := by rw [hmT]; exact y
        obtain ⟨y0, y1, y2, p, d1, d2, d3, d4, d5, d6⟩ := kbranch (i := i) (n := n) cy v tx t.2.2.2.2.2.2 hl z q hn6 y hf
        rw [← hvT] at d4
        have hvj := hvn j
        have hvb := hvn (wbF mT vT j - 1)
        rw [ic_le_f q (by omega), hct, Option.bind_some]
        simp only [li_0, li_1, li_2, li_3, li_4, li_5, li_6, li_7, li_8, li_9, li_10, li_11, li_12, li_13, li_14, li_15, li_16, li_17, li_18, li_19, li_20, li_30, li_31, li_32, li_33, li_40, li_41, li_42, li_43, li_45, li_48, li_56, li_57, li_59, li_60, li_61, li_64, li_91, li_97, li_99, li_100, li_122, li_150, li_160, li_200, li_201, li_255, li_300, li_303, li_304, li_305, li_306, li_312, li_400, li_500, li_999, li_1003, li_3099, li_99999, li_100000, li_1000000, li_65, li_23, li_neg]
        rw [if_neg n10, d1, Option.bind_some, d2, Option.bind_some, pu_sub (by omega), d3, Option.bind_some, pu_add, d4, pu_let]
        by_cases w : wbF mT vT j = 0
        · obtain ⟨y3, g1, g2, g3⟩ := h122 y2 (nI j) (nI (vT j)) d5 d6
          have eB : wbF mT vT (j + 1) = j + 1 := by rw [wbF_s, if_pos ⟨hmj, Or.inl w⟩]
          refine Or.inl ⟨(y3, nI j, nI (vT j), nI (j + 1)), ?_, q, ?_, g2, g3⟩
          · rw [if_pos w, ic_ilem (Or.inl (by omega)) (by omega) (by omega), g1]
          · show (nI j, nI (vT j), nI (j + 1)) = _
            rw [eB, plI_s, if_neg (by omega)]
            rfl
        · by_cases u : vT (wbF mT vT j - 1) < vT j
          · obtain ⟨y3, g1, g2, g3⟩ := h122 y2 (nI j) (nI (vT j)) d5 d6
            have eB : wbF mT vT (j + 1) = j + 1 := by rw [wbF_s, if_pos ⟨hmj, Or.inr u⟩]
            refine Or.inl ⟨(y3, nI j, nI (vT j), nI (j + 1)), ?_, q, ?_, g2, g3⟩
            · rw [if_neg w, ic_le_f u (by omega), g1]
            · show (nI j, nI (vT j), nI (j + 1)) = _
              rw [eB, plI_s, if_neg (by omega)]
              rfl
          · obtain ⟨y3, g1, g2, g3⟩ := h122 y2 (plI (wbF mT vT j)) (nI (vT (wbF mT vT j - 1))) d5 d6
            have eB : wbF mT vT (j + 1) = wbF mT vT j := by
              rw [wbF_s, if_neg]
              rintro ⟨_, w2 | w2⟩
              · exact w w2
              · exact u w2
            refine Or.inl ⟨(y3, plI (wbF mT vT j), nI (vT (wbF mT vT j - 1)), nI (j + 1)), ?_, q, ?_, g2, g3⟩
            · rw [if_neg w, ic_le_t (by omega) (by omega), g1]
            · show (plI (wbF mT vT j), nI (vT (wbF mT vT j - 1)), nI (j + 1)) = _
              rw [eB, if_neg w]
      · rw [if_neg y] at hct
        obtain ⟨y3, g1, g2, g3⟩ := h122 x (plI (wbF mT vT j)) (if wbF mT vT j = 0 then nM 1 else nI (vT (wbF mT vT j - 1))) cy hf
        have eB : wbF mT vT (j + 1) = wbF mT vT j := by
          rw [wbF_s, if_neg]
          rintro ⟨w2, _⟩
          rw [hmT] at w2
          exact y w2
        refine Or.inl ⟨(y3, plI (wbF mT vT j), (if wbF mT vT j = 0 then nM 1 else nI (vT (wbF mT vT j - 1))), nI (j + 1)), ?_, q, ?_, g2, g3⟩
        · rw [ic_le_f q (by omega), hct, Option.bind_some]
          simp only [li_0, li_1, li_2, li_3, li_4, li_5, li_6, li_7, li_8, li_9, li_10, li_11, li_12, li_13, li_14, li_15, li_16, li_17, li_18, li_19, li_20, li_30, li_31, li_32, li_33, li_40, li_41, li_42, li_43, li_45, li_48, li_56, li_57, li_59, li_60, li_61, li_64, li_91, li_97, li_99, li_100, li_122, li_150, li_160, li_200, li_201, li_255, li_300, li_303, li_304, li_305, li_306, li_312, li_400, li_500, li_999, li_1003, li_3099, li_99999, li_100000, li_1000000, li_65, li_23, li_neg]
          rw [if_pos trivial, g1]
        · show (plI (wbF mT vT j), (if wbF mT vT j = 0 then nM 1 else nI (vT (wbF mT vT j - 1))), nI (j + 1)) = _
          rw [eB]
    · have : j = n := by omega
      subst this
      have hfin : ∃ y, b_X6_when_136 x (nI i) (nI j) (nI k) (plI (wbF mT vT j)) (if wbF mT vT j = 0 then nM 1 else nI (vT (wbF mT vT j - 1))) = some (ans, y) ∧ qF kM m y := by
        unfold b_X6_when_136
        simp only [li_0, li_1, li_2, li_3, li_4, li_5, li_6, li_7, li_8, li_9, li_10, li_11, li_12, li_13, li_14, li_15, li_16, li_17, li_18, li_19, li_20, li_30, li_31, li_32, li_33, li_40, li_41, li_42, li_43, li_45, li_48, li_56, li_57, li_59, li_60, li_61, li_64, li_91, li_97, li_99, li_100, li_122, li_150, li_160, li_200, li_201, li_255, li_300, li_303, li_304, li_305, li_306, li_312, li_400, li_500, li_999, li_1003, li_3099, li_99999, li_100000, li_1000000, li_65, li_23, li_neg]
        by_cases k0 : k = 0
        · refine ⟨x, ?_, hf⟩
          rw [k0, if_pos rfl, hans, if_pos k0]
        · have hk1 : k = 1 := by omega
          rw [hans, if_neg k0, hk1, if_neg n10]
          by_cases w : wbF mT vT j = 0
          · obtain ⟨y0, g1, g2, g3⟩ := kbegins (h := 20) (c.F hf (by decide) (by decide) (by decide) (by decide) (by decide) (by decide)) (by omega)
            have f3 : qF kM m y0 := hf.t2 g3 (by simp [kM])
            have t3 : TXc y0 N S := t.2.2.2.2.1.F f3 (by decide) (by decide) (by decide)
            rw [if_pos w, if_pos w, w, plI_0, if_pos rfl, g1, Option.bind_some]
            by_cases h7 : H.A i 7 = 1
            · have hG : v0 = j := by
                rw [hv0, hg0, gnF_st j 0 (ty0 H) (ty0_V v) z h7]
                rfl
              refine ⟨y0, ?_, f3⟩
              have hcl := kisCl (h := 20) (i := i) g2.1 v hi8
              have hA : (ty0 H).1.A i 7 = 1 := h7
              unfold f_X0_weekOfCloths
              rw [hcl]
              simp only [li_0, li_1, li_2, li_3, li_4, li_5, li_6, li_7, li_8, li_9, li_10, li_11, li_12, li_13, li_14, li_15, li_16, li_17, li_18, li_19, li_20, li_30, li_31, li_32, li_33, li_40, li_41, li_42, li_43, li_45, li_48, li_56, li_57, li_59, li_60, li_61, li_64, li_91, li_97, li_99, li_100, li_122, li_150, li_160, li_200, li_201, li_255, li_300, li_303, li_304, li_305, li_306, li_312, li_400, li_500, li_999, li_1003, li_3099, li_99999, li_100000, li_1000000, li_65, li_23, li_neg]
              rw [if_pos hA, Option.bind_some, if_neg n10, Option.bind_some, hG]
            · have a7 := (v.av i).2.2.2.2.2.2.2
              obtain ⟨y2, p, k1, k2, k3, k4⟩ := kcloths (m := y0) (h := 20) (i := i) (H := H) (S := S) (N := N) (by omega) t.2.2.2.2.2.2 hi8 j (ty0 H) g2 (ty0_V v) (HK.rf H) z t3 hl hr.1 hr.2.2.1 (by omega) (by show 0 < 2 ^ 19; omega) (by show H.A i 7 = 0; omega)
              have h02 : (ty0 H).2.2.2.2 = 0 := rfl
              have hG : v0 = p := by
                rw [hv0, hg0, k2, h02]
                unfold vGn
                by_cases u : p = j
                · simp only [if_pos u, if_true]
                  omega
                · simp only [if_neg u]
                  rw [if_neg (by omega)]
                  omega
              refine ⟨y2, ?_, f3.t2 k4 (by simp [kM])⟩
              rw [k1, Option.bind_some, hG]
          · refine ⟨x, ?_, hf⟩
            rw [if_neg w, if_neg w, if_neg (fun u => w ((plI_z (by omega)).mp u))]
      obtain ⟨y, g1, g2⟩ := hfin
      refine Or.inr ⟨(ans, y), ?_, rfl, g2⟩
      rw [ic_le_t (by omega) (by omega), g1]
      rfl)
  have r1m : MH r1.2 H := r.cl b3 (by decide)
  have tr := t.2.2.2.2.2.1.F b3 (by decide) (by decide)
  obtain ⟨u0, d1, d2, d3, d4, d5⟩ := r7goneOf (m := r1.2) (S := S) (i := i) (n := n) (t := n) (N := N) (v3 := nM 1) r1m v tr t.2.2.2.2.2.2 hl (by omega) z (Nat.le_refl _) (fun j hj => ⟨fun w => absurd w.symm (nM_eqI (by omega) (by omega) (Or.inl (by omega))), fun w => by omega⟩)
  rw [← hv0] at d1
  obtain ⟨r2, g1, g2, g3, g4, g5⟩ := lp_at (f := fun s : qaM × Int32 × Int32 × Int32 => b_X7_when_48 s.1 (nI i) (nI n) (nI k) s.2.1 s.2.2.1 s.2.2.2) (fun j s => s.2 = (plI (wbF mT vT j), (if wbF mT vT j = 0 then nI v0 else nI (vT (wbF mT vT j - 1))), nI j) ∧ MH s.1 H ∧ qF rL r1.2 s.1 ∧ o36l [37, 38, 39, 43, 44, 46] r1.2 s.1) (fun q => q.1 = ans ∧ MH q.2 H ∧ qF rL r1.2 q.2 ∧ o36l [37, 38, 39, 43, 44, 46] r1.2 q.2) n (s := (u0, nM 1, nI v0, nI 0)) ⟨rfl, d2, d3, d4⟩ (by omega) (by
    rintro j ⟨x, k2⟩ hj ⟨hk2, hm, hf, ho⟩
    have hk3 : k2 = (plI (wbF mT vT j), (if wbF mT vT j = 0 then nI v0 else nI (vT (wbF mT vT j - 1))), nI j) := hk2
    replace hf : qF rL r1.2 x := hf
    replace ho : o36l [37, 38, 39, 43, 44, 46] r1.2 x := ho
    replace hm : MH x H := hm
    subst hk3
    show (∃ s', b_X7_when_48 x (nI i) (nI n) (nI k) (plI (wbF mT vT j)) (if wbF mT vT j = 0 then nI v0 else nI (vT (wbF mT vT j - 1))) (nI j) = some (.inl s') ∧ _) ∨ (∃ q, b_X7_when_48 x (nI i) (nI n) (nI k) (plI (wbF mT vT j)) (if wbF mT vT j = 0 then nI v0 else nI (vT (wbF mT vT j - 1))) (nI j) = some (.inr q) ∧ _)
    have hble := wbF_le mT vT j
    unfold b_X7_when_48
    rcases Nat.lt_or_ge j n with q | q
    · obtain ⟨x2, p1, p2, p3, p4, p5⟩ := r7goneOf (m := x) (S := S) (i := i) (n := n) (t := j) (N := N) (v3 := nI j) hm v (tr.rL hf) t.2.2.2.2.2.2 hl (by omega) z (by omega) (fun l hl2 => by rw [nI_eq (by omega) (by omega)])
      rw [← hvT] at p1
      have f2 := hf.t2 p3 (fun _ z => z)
      have o2 := ho.tr p4 (fun _ z => z) (fun _ z => z)
      have hvj := hvn j
      have hvb := hvn (wbF mT vT j - 1)
      rw [ic_le_f q (by omega), p1, Option.bind_some]
      show (∃ s', (if x2 36 46 = 0 then _ else _) = _ ∧ _) ∨ _
      rw [p5]
      by_cases y : mayA (thk S j H).1 i = true
      · have hmj : mT j = true := by rw [hmT]; exact y
        rw [if_pos (show j < n ∧ _ from ⟨q, y⟩)]
        simp only [li_0, li_1, li_2, li_3, li_4, li_5, li_6, li_7, li_8, li_9, li_10, li_11, li_12, li_13, li_14, li_15, li_16, li_17, li_18, li_19, li_20, li_30, li_31, li_32, li_33, li_40, li_41, li_42, li_43, li_45, li_48, li_56, li_57, li_59, li_60, li_61, li_64, li_91, li_97, li_99, li_100, li_122, li_150, li_160, li_200, li_201, li_255, li_300, li_303, li_304, li_305, li_306, li_312, li_400, li_500, li_999, li_1003, li_3099, li_99999, li_100000, li_1000000, li_65, li_23, li_neg]
        rw [if_neg n10]
        by_cases w : wbF mT vT j = 0
        · have eB : wbF mT vT (j + 1) = j + 1 := by rw [wbF_s, if_pos ⟨hmj, Or.inl w⟩]
          refine Or.inl ⟨(x2, nI j, nI (vT j), nI (j + 1)), ?_, q, ?_, p2, f2, o2⟩
          · rw [w, plI_0, if_pos rfl]
            ((try simp only [b_X7_when_84, b_X7_when_89, b_X7_when_103, b_X7_when_117, li_0, li_1, li_2, li_3, li_4, li_5, li_6, li_7, li_8, li_9, li_10, li_11, li_12, li_13, li_14, li_15, li_16, li_17, li_18, li_19, li_20, li_30, li_31, li_32, li_33, li_40, li_41, li_42, li_43, li_45, li_48, li_56, li_57, li_59, li_60, li_61, li_64, li_91, li_97, li_99, li_100, li_122, li_150, li_160, li_200, li_201, li_255, li_300, li_303, li_304, li_305, li_306, li_312, li_400, li_500, li_999, li_1003, li_3099, li_99999, li_100000, li_1000000, li_65, li_23, li_neg]); (try simp (disch := omega) only [b_X7_when_84, b_X7_when_89, b_X7_when_103, b_X7_when_117, ic_le_f, ic_le_t, ic_lt_f, ic_lt_t, ic_eq_f, ic_eq_t, ic_im, ic_mi, ic_mm_t, ic_mm_f, ic_mlt, ic_mle, ic_ilem, ic_iltm, ic_mmle_t, ic_mmle_f, pu_add, pu_mul, pu_in, pu_ck, pu_let, pu_cl, pu_cpok, pu_inr, Option.bind_some, ite_true, ite_false, pu_dm, pu_dv, pu_sub, nt_dm, if_true, if_false]))
          · show (nI j, nI (vT j), nI (j + 1)) = _
            rw [eB, plI_s, if_neg (by omega)]
            rfl
        · have hp1 : ¬ plI (wbF mT vT j) = nM 1 := fun u => w ((plI_z (by omega)).mp u)
          by_cases u : vT (wbF mT vT j - 1) < vT j
          · have eB : wbF mT vT (j + 1) = j + 1 := by rw [wbF_s, if_pos ⟨hmj, Or.inr u⟩]
            refine Or.inl ⟨(x2, nI j, nI (vT j), nI (j + 1)), ?_, q, ?_, p2, f2, o2⟩
            · rw [if_neg hp1, if_neg w, ic_le_f u (by omega)]
              ((try simp only [b_X7_when_84, b_X7_when_89, b_X7_when_103, b_X7_when_117, li_0, li_1, li_2, li_3, li_4, li_5, li_6, li_7, li_8, li_9, li_10, li_11, li_12, li_13, li_14, li_15, li_16, li_17, li_18, li_19, li_20, li_30, li_31, li_32, li_33, li_40, li_41, li_42, li_43, li_45, li_48, li_56, li_57, li_59, li_60, li_61, li_64, li_91, li_97, li_99, li_100, li_122, li_150, li_160, li_200, li_201, li_255, li_300, li_303, li_304, li_305, li_306, li_312, li_400, li_500, li_999, li_1003, li_3099, li_99999, li_100000, li_1000000, li_65, li_23, li_neg]); (try simp (disch := omega) only [b_X7_when_84, b_X7_when_89, b_X7_when_103, b_X7_when_117, ic_le_f, ic_le_t, ic_lt_f, ic_lt_t, ic_eq_f, ic_eq_t, ic_im, ic_mi, ic_mm_t, ic_mm_f, ic_mlt, ic_mle, ic_ilem, ic_iltm, ic_mmle_t, ic_mmle_f, pu_add, pu_mul, pu_in, pu_ck, pu_let, pu_cl, pu_cpok, pu_inr, Option.bind_some, ite_true, ite_false, pu_dm, pu_dv, pu_sub, nt_dm, if_true, if_false]))
            · show (nI j, nI (vT j), nI (j + 1)) = _
              rw [eB, plI_s, if_neg (by omega)]
              rfl
          · have eB : wbF mT vT (j + 1) = wbF mT vT j := by
              rw [wbF_s, if_neg]
              rintro ⟨_, w2 | w2⟩
              · exact w w2
              · exact u w2
            refine Or.inl ⟨(x2, plI (wbF mT vT j), nI (vT (wbF mT vT j - 1)), nI (j + 1)), ?_, q, ?_, p2, f2, o2⟩
            · rw [if_neg hp1, if_neg w, ic_le_t (by omega) (by omega)]
              ((try simp only [b_X7_when_88, b_X7_when_89, b_X7_when_103, b_X7_when_117, li_0, li_1, li_2, li_3, li_4, li_5, li_6, li_7, li_8, li_9, li_10, li_11, li_12, li_13, li_14, li_15, li_16, li_17, li_18, li_19, li_20, li_30, li_31, li_32, li_33, li_40, li_41, li_42, li_43, li_45, li_48, li_56, li_57, li_59, li_60, li_61, li_64, li_91, li_97, li_99, li_100, li_122, li_150, li_160, li_200, li_201, li_255, li_300, li_303, li_304, li_305, li_306, li_312, li_400, li_500, li_999, li_1003, li_3099, li_99999, li_100000, li_1000000, li_65, li_23, li_neg]); (try simp (disch := omega) only [b_X7_when_88, b_X7_when_89, b_X7_when_103, b_X7_when_117, ic_le_f, ic_le_t, ic_lt_f, ic_lt_t, ic_eq_f, ic_eq_t, ic_im, ic_mi, ic_mm_t, ic_mm_f, ic_mlt, ic_mle, ic_ilem, ic_iltm, ic_mmle_t, ic_mmle_f, pu_add, pu_mul, pu_in, pu_ck, pu_let, pu_cl, pu_cpok, pu_inr, Option.bind_some, ite_true, ite_false, pu_dm, pu_dv, pu_sub, nt_dm, if_true, if_false]))
            · show (plI (wbF mT vT j), nI (vT (wbF mT vT j - 1)), nI (j + 1)) = _
              rw [eB, if_neg w]
      · have eB : wbF mT vT (j + 1) = wbF mT vT j := by
          rw [wbF_s, if_neg]
          rintro ⟨w2, _⟩
          rw [hmT] at w2
          exact y w2
        rw [if_neg (show ¬ (j < n ∧ _) from fun w => y w.2)]
        simp only [li_0, li_1, li_2, li_3, li_4, li_5, li_6, li_7, li_8, li_9, li_10, li_11, li_12, li_13, li_14, li_15, li_16, li_17, li_18, li_19, li_20, li_30, li_31, li_32, li_33, li_40, li_41, li_42, li_43, li_45, li_48, li_56, li_57, li_59, li_60, li_61, li_64, li_91, li_97, li_99, li_100, li_122, li_150, li_160, li_200, li_201, li_255, li_300, li_303, li_304, li_305, li_306, li_312, li_400, li_500, li_999, li_1003, li_3099, li_99999, li_100000, li_1000000, li_65, li_23, li_neg]
        rw [if_pos trivial]
        refine Or.inl ⟨(x2, plI (wbF mT vT j), (if wbF mT vT j = 0 then nI v0 else nI (vT (wbF mT vT j - 1))), nI (j + 1)), ?_, q, ?_, p2, f2, o2⟩
        · ((try simp only [b_X7_when_88, b_X7_when_89, b_X7_when_103, b_X7_when_117, li_0, li_1, li_2, li_3, li_4, li_5, li_6, li_7, li_8, li_9, li_10, li_11, li_12, li_13, li_14, li_15, li_16, li_17, li_18, li_19, li_20, li_30, li_31, li_32, li_33, li_40, li_41, li_42, li_43, li_45, li_48, li_56, li_57, li_59, li_60, li_61, li_64, li_91, li_97, li_99, li_100, li_122, li_150, li_160, li_200, li_201, li_255, li_300, li_303, li_304, li_305, li_306, li_312, li_400, li_500, li_999, li_1003, li_3099, li_99999, li_100000, li_1000000, li_65, li_23, li_neg]); (try simp (disch := omega) only [b_X7_when_88, b_X7_when_89, b_X7_when_103, b_X7_when_117, ic_le_f, ic_le_t, ic_lt_f, ic_lt_t, ic_eq_f, ic_eq_t, ic_im, ic_mi, ic_mm_t, ic_mm_f, ic_mlt, ic_mle, ic_ilem, ic_iltm, ic_mmle_t, ic_mmle_f, pu_add, pu_mul, pu_in, pu_ck, pu_let, pu_cl, pu_cpok, pu_inr, Option.bind_some, ite_true, ite_false, pu_dm, pu_dv, pu_sub, nt_dm, if_true, if_false]))
        · show (plI (wbF mT vT j), (if wbF mT vT j = 0 then nI v0 else nI (vT (wbF mT vT j - 1))), nI (j + 1)) = _
          rw [eB]
    · have : j = n := by omega
      subst this
      refine Or.inr ⟨(ans, x), ?_, rfl, hm, hf, ho⟩
      rw [ic_le_t (by omega) (by omega)]
      unfold b_X7_when_125
      simp only [li_0, li_1, li_2, li_3, li_4, li_5, li_6, li_7, li_8, li_9, li_10, li_11, li_12, li_13, li_14, li_15, li_16, li_17, li_18, li_19, li_20, li_30, li_31, li_32, li_33, li_40, li_41, li_42, li_43, li_45, li_48, li_56, li_57, li_59, li_60, li_61, li_64, li_91, li_97, li_99, li_100, li_122, li_150, li_160, li_200, li_201, li_255, li_300, li_303, li_304, li_305, li_306, li_312, li_400, li_500, li_999, li_1003, li_3099, li_99999, li_100000, li_1000000, li_65, li_23, li_neg]
      by_cases k0 : k = 0
      · rw [k0, if_pos rfl, hans, if_pos k0]
        rfl
      · have hk1 : k = 1 := by omega
        rw [hans, if_neg k0, hk1, if_neg n10]
        rfl)
  refine ⟨ans, r1.2, r2.2, ?_, ?_, Rel.think hD (b3.mo (by simp [kM])) (g4.mo (by simp [rL])) g5 g3⟩
  · unfold f_X6_when
    simp only [li_0, li_1, li_2, li_3, li_4, li_5, li_6, li_7, li_8, li_9, li_10, li_11, li_12, li_13, li_14, li_15, li_16, li_17, li_18, li_19, li_20, li_30, li_31, li_32, li_33, li_40, li_41, li_42, li_43, li_45, li_48, li_56, li_57, li_59, li_60, li_61, li_64, li_91, li_97, li_99, li_100, li_122, li_150, li_160, li_200, li_201, li_255, li_300, li_303, li_304, li_305, li_306, li_312, li_400, li_500, li_999, li_1003, li_3099, li_99999, li_100000, li_1000000, li_65, li_23, li_neg]
    rw [e1, Option.bind_some, if_neg n10, if_neg (nI_nlt hn0 (by omega)), if_neg (nI_nlt hn6 (by omega)), if_neg (nI_nlt (Nat.zero_le _) (by omega)), if_pos (nI_le hk (by omega)), a1, Option.bind_some, lp_X6_when_54, b1, ← b2]
  · unfold f_X7_when
    simp only [li_0, li_1, li_2, li_3, li_4, li_5, li_6, li_7, li_8, li_9, li_10, li_11, li_12, li_13, li_14, li_15, li_16, li_17, li_18, li_19, li_20, li_30, li_31, li_32, li_33, li_40, li_41, li_42, li_43, li_45, li_48, li_56, li_57, li_59, li_60, li_61, li_64, li_91, li_97, li_99, li_100, li_122, li_150, li_160, li_200, li_201, li_255, li_300, li_303, li_304, li_305, li_306, li_312, li_400, li_500, li_999, li_1003, li_3099, li_99999, li_100000, li_1000000, li_65, li_23, li_neg]
    rw [e2 _ r1m, Option.bind_some, if_neg n10, ein, Option.bind_some, if_neg n10, in7_ok hk (by omega), Option.bind_some, if_neg n10, d1, Option.bind_some]
    show lp_X7_when_48 u0 (nI i) (nI n) (nI k) (nM 1) (nI v0) (nI 0) = _
    rw [lp_X7_when_48, g1, ← g2]
