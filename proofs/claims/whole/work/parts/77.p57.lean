/-! PURE: odds -/
theorem nL_t {k : Nat} (hk : k < 2 ^ 31) : (nI k).toInt64.toInt = k := by rw [Int32.toInt_toInt64, pu_t hk]
theorem nL_div {a b : Nat} (ha : a < 2 ^ 30) (hb : b < 2 ^ 30) : (nI a).toInt64 / (nI b).toInt64 = (nI (a / b)).toInt64 := by
  have h1 : a / b ≤ a := Nat.div_le_self a b
  have h2 := Int.ofNat_tdiv a b
  obtain ⟨q, hq⟩ : ∃ q, q = a / b := ⟨_, rfl⟩
  rw [← hq] at h1 h2
  refine Int64.toInt_inj.mp ?_
  rw [Int64.toInt_div, nL_t (by omega), nL_t (by omega), ← hq, nL_t (by omega), ← h2, Int.bmod_eq_of_le (by omega) (by omega)]
theorem nL_mul {a b : Nat} (hab : a * b < 2 ^ 30) (ha : a < 2 ^ 30) (hb : b < 2 ^ 30) : (nI a).toInt64 * (nI b).toInt64 = (nI (a * b)).toInt64 := by
  have h2 := Int.natCast_mul a b
  obtain ⟨q, hq⟩ : ∃ q, q = a * b := ⟨_, rfl⟩
  rw [← hq] at hab h2
  refine Int64.toInt_inj.mp ?_
  rw [Int64.toInt_mul, nL_t (by omega), nL_t (by omega), ← hq, nL_t (by omega), ← h2, Int.bmod_eq_of_le (by omega) (by omega)]
theorem nL_sub {a b : Nat} (ha : a < 2 ^ 30) (hb : b ≤ a) : (nI a).toInt64 - (nI b).toInt64 = (nI (a - b)).toInt64 := by
  refine Int64.toInt_inj.mp ?_
  rw [Int64.toInt_sub, nL_t (by omega), nL_t (by omega), nL_t (by omega), Int.bmod_eq_of_le (by omega) (by omega)]
  omega
theorem nL_mod {a b : Nat} (ha : a < 2 ^ 30) (hb : b < 2 ^ 30) : (nI a).toInt64 - (nI a).toInt64 / (nI b).toInt64 * (nI b).toInt64 = (nI (a % b)).toInt64 := by
  have h1 : a / b * b ≤ a := Nat.div_mul_le_self a b
  have h2 : a / b ≤ a := Nat.div_le_self a b
  rw [nL_div ha hb, nL_mul (by omega) (by omega) hb, nL_sub ha h1, nt_dm]
theorem nL_0 : (0 : Int64) = (nI 0).toInt64 := by decide
theorem nL_eq {a b : Nat} (ha : a < 2 ^ 31) (hb : b < 2 ^ 31) : (nI a).toInt64 = (nI b).toInt64 ↔ a = b := by
  constructor
  · intro h
    have := congrArg Int64.toInt h
    rw [nL_t ha, nL_t hb] at this
    omega
  · rintro rfl
    rfl
theorem nL_cmp {a : Nat} (ha : a < 2 ^ 31) : (lg_cmp (nI a).toInt64 0 = nI 0) ↔ a = 0 := by
  unfold lg_cmp
  rw [nL_0]
  by_cases z : a = 0
  · rw [z]
    simp
    decide
  · have h1 : (nI a).toInt64 > (nI 0).toInt64 := by
      show (nI 0).toInt64 < (nI a).toInt64
      rw [Int64.lt_iff_toInt_lt, nL_t ha, nL_t (by omega)]
      omega
    rw [if_pos h1]
    exact ⟨fun h => absurd h (by decide), fun h => absurd h z⟩
theorem kgcd {m : qaM} {a b : Nat} (ha : a ≤ 31) (hb : b ≤ 31) : f_X6_commonDivisor m (nI a) (nI b) = some (nI (Nat.gcd a b)) := by
  obtain ⟨r, h1, h2⟩ := lp_at (f := fun s : Int32 × Int32 × Int32 => b_X6_commonDivisor_2 m s.1 s.2.1 s.2.2) (fun j s => ∃ x y : Nat, s = (nI x, nI y, nI j) ∧ Nat.gcd x y = Nat.gcd a b ∧ x ≤ 31 ∧ y + j ≤ 31) (fun r => r = nI (Nat.gcd a b)) 31 (s := (nI a, nI b, nI 0)) ⟨a, b, rfl, rfl, ha, by omega⟩ (by omega) (by
    rintro j s hj ⟨x, y, rfl, hg, hx, hy⟩
    unfold b_X6_commonDivisor_2
    by_cases z : y = 0
    · subst z
      refine Or.inr ⟨nI x, ?_, ?_⟩
      · ((try simp only [li_0, li_1, li_2, li_3, li_4, li_5, li_6, li_7, li_8, li_9, li_10, li_11, li_12, li_13, li_14, li_15, li_16, li_17, li_18, li_19, li_20, li_30, li_31, li_32, li_33, li_40, li_41, li_42, li_43, li_45, li_48, li_56, li_57, li_59, li_60, li_61, li_64, li_91, li_97, li_99, li_100, li_122, li_150, li_160, li_200, li_201, li_255, li_300, li_303, li_304, li_305, li_306, li_312, li_400, li_500, li_999, li_1003, li_3099, li_99999, li_100000, li_1000000, li_65, li_23, li_neg]); (try simp (disch := omega) only [ic_le_f, ic_le_t, ic_lt_f, ic_lt_t, ic_eq_f, ic_eq_t, ic_im, ic_mi, ic_mm_t, ic_mm_f, ic_mlt, ic_mle, ic_ilem, ic_iltm, ic_mmle_t, ic_mmle_f, pu_add, pu_mul, pu_in, pu_ck, pu_let, pu_cl, pu_cpok, pu_inr, Option.bind_some, ite_true, ite_false, pu_dm, pu_dv, pu_sub, nt_dm, if_true, if_false]))
      · rw [← hg, Nat.gcd_zero_right]
    · have hlt : x % y < y := Nat.mod_lt _ (by omega)
      refine Or.inl ⟨(nI y, nI (x % y), nI (j + 1)), ?_, by omega, y, x % y, rfl, ?_, by omega, by omega⟩
      · have hny : (nI y = nI 0) = False := eq_false (fun q => z ((nI_eq (by omega) (by omega)).mp q))
        simp only [li_0, li_1, li_2, li_3, li_4, li_5, li_6, li_7, li_8, li_9, li_10, li_11, li_12, li_13, li_14, li_15, li_16, li_17, li_18, li_19, li_20, li_30, li_31, li_32, li_33, li_40, li_41, li_42, li_43, li_45, li_48, li_56, li_57, li_59, li_60, li_61, li_64, li_91, li_97, li_99, li_100, li_122, li_150, li_160, li_200, li_201, li_255, li_300, li_303, li_304, li_305, li_306, li_312, li_400, li_500, li_999, li_1003, li_3099, li_99999, li_100000, li_1000000, li_65, li_23, li_neg]
        rw [ic_le_f (by omega) (by omega), if_neg (of_eq_false hny), decide_eq_true (of_eq_false hny), pu_ck, pu_dm (by omega) (by omega) (by omega), pu_let, pu_add, pu_let]
      · rw [← hg, Nat.gcd_comm x y, Nat.gcd_rec y x, Nat.gcd_comm])
  unfold f_X6_commonDivisor
  simp only [li_0, li_1, li_2, li_3, li_4, li_5, li_6, li_7, li_8, li_9, li_10, li_11, li_12, li_13, li_14, li_15, li_16, li_17, li_18, li_19, li_20, li_30, li_31, li_32, li_33, li_40, li_41, li_42, li_43, li_45, li_48, li_56, li_57, li_59, li_60, li_61, li_64, li_91, li_97, li_99, li_100, li_122, li_150, li_160, li_200, li_201, li_255, li_300, li_303, li_304, li_305, li_306, li_312, li_400, li_500, li_999, li_1003, li_3099, li_99999, li_100000, li_1000000, li_65, li_23, li_neg]
  rw [lp_X6_commonDivisor_2, h1, h2]
theorem r7lowest {m : qaM} {a b p : Nat} (ha : a ≤ 31) (hb : b ≤ 31) (ha0 : 0 < a) : f_X7_lowest m (nI a).toInt64 (nI b).toInt64 (nI p) = (if nI p = nI 0 then some (nI (a / Nat.gcd a b)).toInt64 else some (nI (b / Nat.gcd a b)).toInt64) := by
  have hgp : 0 < Nat.gcd a b := Nat.gcd_pos_of_pos_left _ ha0
  have hgl : Nat.gcd a b ≤ a := Nat.gcd_le_left _ ha0
  obtain ⟨r, h1, h2⟩ := lp_at (f := fun s : Int64 × Int64 => b_X7_lowest_16 m (nI a).toInt64 (nI b).toInt64 (nI p) s.1 s.2) (fun j s => ∃ x y : Nat, s = ((nI x).toInt64, (nI y).toInt64) ∧ Nat.gcd x y = Nat.gcd a b ∧ x ≤ 31 ∧ y + j ≤ 31) (fun r => some r = (if nI p = nI 0 then some (nI (a / Nat.gcd a b)).toInt64 else some (nI (b / Nat.gcd a b)).toInt64)) 31 (s := ((nI a).toInt64, (nI b).toInt64)) ⟨a, b, rfl, rfl, ha, by omega⟩ (by omega) (by
    rintro j s hj ⟨x, y, rfl, hg, hx, hy⟩
    unfold b_X7_lowest_16
    simp only [li_0, li_1, li_2, li_3, li_4, li_5, li_6, li_7, li_8, li_9, li_10, li_11, li_12, li_13, li_14, li_15, li_16, li_17, li_18, li_19, li_20, li_30, li_31, li_32, li_33, li_40, li_41, li_42, li_43, li_45, li_48, li_56, li_57, li_59, li_60, li_61, li_64, li_91, li_97, li_99, li_100, li_122, li_150, li_160, li_200, li_201, li_255, li_300, li_303, li_304, li_305, li_306, li_312, li_400, li_500, li_999, li_1003, li_3099, li_99999, li_100000, li_1000000, li_65, li_23, li_neg]
    by_cases z : y = 0
    · have hxg : x = Nat.gcd a b := by rw [← hg, z, Nat.gcd_zero_right]
      have hx0 : ¬ (nI x).toInt64 = 0 := by
        rw [nL_0, nL_eq (by omega) (by omega)]
        omega
      rw [if_pos ((nL_cmp (by omega)).mpr z)]
      unfold b_X7_lowest_41
      simp only [li_0, li_1, li_2, li_3, li_4, li_5, li_6, li_7, li_8, li_9, li_10, li_11, li_12, li_13, li_14, li_15, li_16, li_17, li_18, li_19, li_20, li_30, li_31, li_32, li_33, li_40, li_41, li_42, li_43, li_45, li_48, li_56, li_57, li_59, li_60, li_61, li_64, li_91, li_97, li_99, li_100, li_122, li_150, li_160, li_200, li_201, li_255, li_300, li_303, li_304, li_305, li_306, li_312, li_400, li_500, li_999, li_1003, li_3099, li_99999, li_100000, li_1000000, li_65, li_23, li_neg]
      rw [decide_eq_true hx0, pu_ck, pu_ck, nL_div (by omega) (by omega), nL_div (by omega) (by omega), hxg]
      by_cases w : nI p = nI 0
      · refine Or.inr ⟨(nI (a / Nat.gcd a b)).toInt64, ?_, ?_⟩
        · rw [if_pos w]
          rfl
        · rw [if_pos w]
      · refine Or.inr ⟨(nI (b / Nat.gcd a b)).toInt64, ?_, ?_⟩
        · rw [if_neg w]
          rfl
        · rw [if_neg w]
    · have hlt : x % y < y := Nat.mod_lt _ (by omega)
      have hy0 : ¬ (nI y).toInt64 = 0 := by
        rw [nL_0, nL_eq (by omega) (by omega)]
        omega
      refine Or.inl ⟨((nI y).toInt64, (nI (x % y)).toInt64), ?_, by omega, y, x % y, rfl, ?_, by omega, by omega⟩
      · rw [if_neg (fun q => z ((nL_cmp (by omega)).mp q)), decide_eq_true hy0, pu_ck, pu_let, nL_mod (by omega) (by omega)]
      · rw [← hg, Nat.gcd_comm x y, Nat.gcd_rec y x, Nat.gcd_comm])
  unfold f_X7_lowest
  simp only [li_0, li_1, li_2, li_3, li_4, li_5, li_6, li_7, li_8, li_9, li_10, li_11, li_12, li_13, li_14, li_15, li_16, li_17, li_18, li_19, li_20, li_30, li_31, li_32, li_33, li_40, li_41, li_42, li_43, li_45, li_48, li_56, li_57, li_59, li_60, li_61, li_64, li_91, li_97, li_99, li_100, li_122, li_150, li_160, li_200, li_201, li_255, li_300, li_303, li_304, li_305, li_306, li_312, li_400, li_500, li_999, li_1003, li_3099, li_99999, li_100000, li_1000000, li_65, li_23, li_neg]
  rw [if_neg (fun q => absurd ((nL_cmp (by omega)).mp q) (by omega)), lp_X7_lowest_16, h1, h2]
def amF (lf : Nat → Nat) (z : Nat) : Nat → Nat
  | 0 => 0
  | k + 1 => amF lf z k + (if lf k < z then 0 else 1)
theorem amF_s (lf : Nat → Nat) (z k : Nat) : amF lf z (k + 1) = amF lf z k + (if lf k < z then 0 else 1) := rfl
theorem amF_le (lf : Nat → Nat) (z k : Nat) : amF lf z k ≤ k := by
  induction k with
  | zero => exact Nat.le_refl _
  | succ k ih =>
    rw [amF_s]
    split <;> omega
/-- the answer's number -/
def odA (sd am p : Nat) : Nat := (if p = 0 then am else sd) / Nat.gcd sd am
theorem k133 {m : qaM} {sd am p : Nat} (h1 : 0 < sd) (h2 : sd ≤ 30) (h3 : am ≤ 30) (hp : p ≤ 1) : b_X6_odds_133 m (nI p) (nI sd) (nI am) = some ((nI (odA sd am p)).toInt64, m) := by
  have hgp : 0 < Nat.gcd sd am := Nat.gcd_pos_of_pos_left _ h1
  have hgl : Nat.gcd sd am ≤ sd := Nat.gcd_le_left _ h1
  have hny : (nI (Nat.gcd sd am) = nI 0) = False := eq_false (fun q => absurd ((nI_eq (by omega) (by omega)).mp q) (by omega))
  unfold b_X6_odds_133 odA
  rw [kgcd (by omega) (by omega)]
  have : p = 0 ∨ p = 1 := by omega
  rcases this with rfl | rfl
  · rw [if_pos rfl]
    ((try simp only [b_X6_odds_154, hny, not_false_eq_true, decide_true, li_0, li_1, li_2, li_3, li_4, li_5, li_6, li_7, li_8, li_9, li_10, li_11, li_12, li_13, li_14, li_15, li_16, li_17, li_18, li_19, li_20, li_30, li_31, li_32, li_33, li_40, li_41, li_42, li_43, li_45, li_48, li_56, li_57, li_59, li_60, li_61, li_64, li_91, li_97, li_99, li_100, li_122, li_150, li_160, li_200, li_201, li_255, li_300, li_303, li_304, li_305, li_306, li_312, li_400, li_500, li_999, li_1003, li_3099, li_99999, li_100000, li_1000000, li_65, li_23, li_neg]); (try simp (disch := omega) only [b_X6_odds_154, hny, not_false_eq_true, decide_true, ic_le_f, ic_le_t, ic_lt_f, ic_lt_t, ic_eq_f, ic_eq_t, ic_im, ic_mi, ic_mm_t, ic_mm_f, ic_mlt, ic_mle, ic_ilem, ic_iltm, ic_mmle_t, ic_mmle_f, pu_add, pu_mul, pu_in, pu_ck, pu_let, pu_cl, pu_cpok, pu_inr, Option.bind_some, ite_true, ite_false, pu_dm, pu_dv, pu_sub, nt_dm, if_true, if_false]))
  · rw [if_neg (by omega)]
    ((try simp only [b_X6_odds_154, hny, not_false_eq_true, decide_true, li_0, li_1, li_2, li_3, li_4, li_5, li_6, li_7, li_8, li_9, li_10, li_11, li_12, li_13, li_14, li_15, li_16, li_17, li_18, li_19, li_20, li_30, li_31, li_32, li_33, li_40, li_41, li_42, li_43, li_45, li_48, li_56, li_57, li_59, li_60, li_61, li_64, li_91, li_97, li_99, li_100, li_122, li_150, li_160, li_200, li_201, li_255, li_300, li_303, li_304, li_305, li_306, li_312, li_400, li_500, li_999, li_1003, li_3099, li_99999, li_100000, li_1000000, li_65, li_23, li_neg]); (try simp (disch := omega) only [b_X6_odds_154, hny, not_false_eq_true, decide_true, ic_le_f, ic_le_t, ic_lt_f, ic_lt_t, ic_eq_f, ic_eq_t, ic_im, ic_mi, ic_mm_t, ic_mm_f, ic_mlt, ic_mle, ic_ilem, ic_iltm, ic_mmle_t, ic_mmle_f, pu_add, pu_mul, pu_in, pu_ck, pu_let, pu_cl, pu_cpok, pu_inr, Option.bind_some, ite_true, ite_false, pu_dm, pu_dv, pu_sub, nt_dm, if_true, if_false]))
theorem r7_120 {m : qaM} {v3 am sd p : Nat} (hv : v3 / 100 = sd) (hv3 : v3 < 2 ^ 30) (h1 : 0 < sd) (h2 : sd ≤ 30) (h3 : am ≤ 30) (hp : p ≤ 1) : b_X7_odds_120 m (nI v3) (nI p) (nI am).toInt64 = some ((nI (odA sd am p)).toInt64, m) := by
  unfold b_X7_odds_120 odA
  simp only [li_0, li_1, li_2, li_3, li_4, li_5, li_6, li_7, li_8, li_9, li_10, li_11, li_12, li_13, li_14, li_15, li_16, li_17, li_18, li_19, li_20, li_30, li_31, li_32, li_33, li_40, li_41, li_42, li_43, li_45, li_48, li_56, li_57, li_59, li_60, li_61, li_64, li_91, li_97, li_99, li_100, li_122, li_150, li_160, li_200, li_201, li_255, li_300, li_303, li_304, li_305, li_306, li_312, li_400, li_500, li_999, li_1003, li_3099, li_99999, li_100000, li_1000000, li_65, li_23, li_neg]
  rw [pu_dv (by omega) (by omega) (by omega), hv]
  rcases Nat.eq_zero_or_pos am with z | z
  · subst z
    have h0 : f_X7_lowest m (nI 0).toInt64 (nI sd).toInt64 (nI p) = some (nI p).toInt64 := by
      unfold f_X7_lowest
      simp only [li_0, li_1, li_2, li_3, li_4, li_5, li_6, li_7, li_8, li_9, li_10, li_11, li_12, li_13, li_14, li_15, li_16, li_17, li_18, li_19, li_20, li_30, li_31, li_32, li_33, li_40, li_41, li_42, li_43, li_45, li_48, li_56, li_57, li_59, li_60, li_61, li_64, li_91, li_97, li_99, li_100, li_122, li_150, li_160, li_200, li_201, li_255, li_300, li_303, li_304, li_305, li_306, li_312, li_400, li_500, li_999, li_1003, li_3099, li_99999, li_100000, li_1000000, li_65, li_23, li_neg]
      rw [if_pos ((nL_cmp (by omega)).mpr rfl)]
    rw [h0, Option.bind_some, Nat.gcd_zero_right]
    have : p = 0 ∨ p = 1 := by omega
    rcases this with rfl | rfl
    · rw [if_pos rfl, Nat.zero_div]
    · rw [if_neg (by omega), Nat.div_self h1]
  · rw [r7lowest (by omega) (by omega) z, Nat.gcd_comm am sd]
    have : p = 0 ∨ p = 1 := by omega
    rcases this with rfl | rfl
    · rw [if_pos rfl, if_pos rfl, Option.bind_some]
    · rw [if_neg n10, if_neg (by omega), Option.bind_some]
theorem qp_odds : qaP_odds Rel := by
  intro m a b d e h
  obtain ⟨H, N, S, hD⟩ := h
  have ⟨c, r, v, hl, hw, t, _, _, _, nt⟩ := hD
  have n8 := v.n8
  have hNO : ∀ x, b_X7_odds_44 x a b d e = some ((-4611686018427387904 : Int64), x) := fun x => by
    unfold b_X7_odds_44 b_X7_odds_45
    rw [if_pos rfl]
  rcases upTo 99999 100000 rfl (by omega) a with ⟨s, hs, rfl⟩ | hx
  rotate_left
  · refine ⟨(-4611686018427387904 : Int64), m, m, ?_, ?_, Rel.mk hD⟩
    · unfold f_X6_odds
      simp only [li_0, li_1, li_2, li_3, li_4, li_5, li_6, li_7, li_8, li_9, li_10, li_11, li_12, li_13, li_14, li_15, li_16, li_17, li_18, li_19, li_20, li_30, li_31, li_32, li_33, li_40, li_41, li_42, li_43, li_45, li_48, li_56, li_57, li_59, li_60, li_61, li_64, li_91, li_97, li_99, li_100, li_122, li_150, li_160, li_200, li_201, li_255, li_300, li_303, li_304, li_305, li_306, li_312, li_400, li_500, li_999, li_1003, li_3099, li_99999, li_100000, li_1000000, li_65, li_23, li_neg]
      rw [hx.sd6, Option.bind_some, if_pos rfl]
    · unfold f_X7_odds
      simp only [li_0, li_1, li_2, li_3, li_4, li_5, li_6, li_7, li_8, li_9, li_10, li_11, li_12, li_13, li_14, li_15, li_16, li_17, li_18, li_19, li_20, li_30, li_31, li_32, li_33, li_40, li_41, li_42, li_43, li_45, li_48, li_56, li_57, li_59, li_60, li_61, li_64, li_91, li_97, li_99, li_100, li_122, li_150, li_160, li_200, li_201, li_255, li_300, li_303, li_304, li_305, li_306, li_312, li_400, li_500, li_999, li_1003, li_3099, li_99999, li_100000, li_1000000, li_65, li_23, li_neg]
      rw [hx.in7, Option.bind_some, if_pos rfl, hNO]
  rcases upTo 200 201 rfl (by omega) b with ⟨n, hn, rfl⟩ | hx
  rotate_left
  · refine ⟨(-4611686018427387904 : Int64), m, m, ?_, ?_, Rel.mk hD⟩
    · unfold f_X6_odds
      simp only [li_0, li_1, li_2, li_3, li_4, li_5, li_6, li_7, li_8, li_9, li_10, li_11, li_12, li_13, li_14, li_15, li_16, li_17, li_18, li_19, li_20, li_30, li_31, li_32, li_33, li_40, li_41, li_42, li_43, li_45, li_48, li_56, li_57, li_59, li_60, li_61, li_64, li_91, li_97, li_99, li_100, li_122, li_150, li_160, li_200, li_201, li_255, li_300, li_303, li_304, li_305, li_306, li_312, li_400, li_500, li_999, li_1003, li_3099, li_99999, li_100000, li_1000000, li_65, li_23, li_neg]
      rw [sd6_ok hs, Option.bind_some, if_neg n10, hx.wk6, Option.bind_some, if_pos rfl]
    · unfold f_X7_odds
      simp only [li_0, li_1, li_2, li_3, li_4, li_5, li_6, li_7, li_8, li_9, li_10, li_11, li_12, li_13, li_14, li_15, li_16, li_17, li_18, li_19, li_20, li_30, li_31, li_32, li_33, li_40, li_41, li_42, li_43, li_45, li_48, li_56, li_57, li_59, li_60, li_61, li_64, li_91, li_97, li_99, li_100, li_122, li_150, li_160, li_200, li_201, li_255, li_300, li_303, li_304, li_305, li_306, li_312, li_400, li_500, li_999, li_1003, li_3099, li_99999, li_100000, li_1000000, li_65, li_23, li_neg]
      rw [in7_ok hs (by omega), Option.bind_some, if_neg n10, hx.wk7, Option.bind_some, if_pos rfl, hNO]
  -- the seeds in their bounds, or not
  have hd : (∃ z : Nat, 100 ≤ z ∧ z ≤ 3099 ∧ d = nI z) ∨ ((d < nI 100 ∨ (¬ d < nI 100 ∧ ¬ d / nI 100 ≤ nI 30)) ∧ ∀ x, f_X7_in x d (nI 100) (nI 3099) = some (nI 0)) := by
    rcases anyI d with q | ⟨z, hz, rfl⟩
    · refine Or.inr ⟨Or.inl ?_, fun x => r7in_n q (by omega)⟩
      rw [Int32.lt_iff_toInt_lt] at q ⊢
      rw [pu_t (by omega)]
      have h0 : (0 : Int32).toInt = 0 := by decide
      omega
    · rcases Nat.lt_or_ge z 100 with q | q
      · refine Or.inr ⟨Or.inl (nI_lt q (by omega)), fun x => ?_⟩
        rw [r7in (by omega) (by omega) (by omega), if_neg (by omega)]
      · rcases Nat.lt_or_ge 3099 z with y | y
        · refine Or.inr ⟨Or.inr ⟨nI_nlt q (by omega), ?_⟩, fun x => ?_⟩
          · rw [pu_dv (by omega) (by omega) (by omega), pu_le (by omega) (by omega)]
            omega
          · rw [r7in (by omega) (by omega) (by omega), if_neg (by omega)]
        · exact Or.inl ⟨z, q, y, rfl⟩
  rcases upTo 1 2 rfl (by omega) e with ⟨p, hp, rfl⟩ | hx
  rotate_left
  · refine ⟨(-4611686018427387904 : Int64), m, m, ?_, ?_, Rel.mk hD⟩
    · unfold f_X6_odds
      simp only [li_0, li_1, li_2, li_3, li_4, li_5, li_6, li_7, li_8, li_9, li_10, li_11, li_12, li_13, li_14, li_15, li_16, li_17, li_18, li_19, li_20, li_30, li_31, li_32, li_33, li_40, li_41, li_42, li_43, li_45, li_48, li_56, li_57, li_59, li_60, li_61, li_64, li_91, li_97, li_99, li_100, li_122, li_150, li_160, li_200, li_201, li_255, li_300, li_303, li_304, li_305, li_306, li_312, li_400, li_500, li_999, li_1003, li_3099, li_99999, li_100000, li_1000000, li_65, li_23, li_neg]
      rw [sd6_ok hs, Option.bind_some, if_neg n10, wk6_ok hn, Option.bind_some, if_neg n10]
      rcases hx with ⟨h1, h2, h3, h4, h5, h6⟩ | ⟨h1, h2, h3, h4, h5, h6⟩
      · rw [if_pos (of_eq_true h1)]
      · rw [if_neg (of_eq_false h1), if_neg (of_eq_false h2)]
    · have hin : ∃ k, f_X7_in m d (nI 100) (nI 3099) = some k := by
        unfold f_X7_in
        repeat' split
        all_goals exact ⟨_, rfl⟩
      obtain ⟨k, hk⟩ := hin
      unfold f_X7_odds
      simp only [li_0, li_1, li_2, li_3, li_4, li_5, li_6, li_7, li_8, li_9, li_10, li_11, li_12, li_13, li_14, li_15, li_16, li_17, li_18, li_19, li_20, li_30, li_31, li_32, li_33, li_40, li_41, li_42, li_43, li_45, li_48, li_56, li_57, li_59, li_60, li_61, li_64, li_91, li_97, li_99, li_100, li_122, li_150, li_160, li_200, li_201, li_255, li_300, li_303, li_304, li_305, li_306, li_312, li_400, li_500, li_999, li_1003, li_3099, li_99999, li_100000, li_1000000, li_65, li_23, li_neg]
      rw [in7_ok hs (by omega), Option.bind_some, if_neg n10, r7areWeeks hn, Option.bind_some, if_neg n10, hk, Option.bind_some, hx.in7, Option.bind_some, if_pos rfl, hNO]
      split <;> rfl
  rcases hd with ⟨z, hz1, hz2, rfl⟩ | ⟨h1, h2⟩
  rotate_left
  · refine ⟨(-4611686018427387904 : Int64), m, m, ?_, ?_, Rel.mk hD⟩
    · unfold f_X6_odds
      simp only [li_0, li_1, li_2, li_3, li_4, li_5, li_6, li_7, li_8, li_9, li_10, li_11, li_12, li_13, li_14, li_15, li_16, li_17, li_18, li_19, li_20, li_30, li_31, li_32, li_33, li_40, li_41, li_42, li_43, li_45, li_48, li_56, li_57, li_59, li_60, li_61, li_64, li_91, li_97, li_99, li_100, li_122, li_150, li_160, li_200, li_201, li_255, li_300, li_303, li_304, li_305, li_306, li_312, li_400, li_500, li_999, li_1003, li_3099, li_99999, li_100000, li_1000000, li_65, li_23, li_neg]
      rw [sd6_ok hs, Option.bind_some, if_neg n10, wk6_ok hn, Option.bind_some, if_neg n10, if_neg (nI_nlt (Nat.zero_le _) (by omega)), if_pos (nI_le hp (by omega)), pu_let]
      rcases h1 with q | ⟨q, y⟩
      · rw [if_pos q]
      · rw [if_neg q, if_neg y]
    · unfold f_X7_odds
      simp only [li_0, li_1, li_2, li_3, li_4, li_5, li_6, li_7, li_8, li_9, li_10, li_11, li_12, li_13, li_14, li_15, li_16, li_17, li_18, li_19, li_20, li_30, li_31, li_32, li_33, li_40, li_41, li_42, li_43, li_45, li_48, li_56, li_57, li_59, li_60, li_61, li_64, li_91, li_97, li_99, li_100, li_122, li_150, li_160, li_200, li_201, li_255, li_300, li_303, li_304, li_305, li_306, li_312, li_400, li_500, li_999, li_1003, li_3099, li_99999, li_100000, li_1000000, li_65, li_23, li_neg]
      rw [in7_ok hs (by omega), Option.bind_some, if_neg n10, r7areWeeks hn, Option.bind_some, if_neg n10, h2, Option.bind_some, if_pos rfl, hNO]
  obtain ⟨sd, hsd⟩ : ∃ sd, sd = z / 100 := ⟨_, rfl⟩
  obtain ⟨od, hod⟩ : ∃ od, od = z % 100 := ⟨_, rfl⟩
  have hsd0 : 0 < sd := by omega
  have hsd30 : sd ≤ 30 := by omega
  have hv := thk_V (S := S) (n := n) v
  obtain ⟨q0, hq0⟩ : ∃ q0, q0 = lfH (thk S n H).1.A H.n := ⟨_, rfl⟩
  have hq8 : q0 ≤ 8 := by
    rw [hq0]
    exact Nat.le_trans (lfH_le _ _) n8
  obtain ⟨lf, hlf⟩ : ∃ lf : Nat → Nat, ∀ k, lf k = lfH (lot S n ((nI (s + k)).toInt64 + 1) (nI od) H).1.A H.n := ⟨_, fun _ => rfl⟩
  have hlf8 : ∀ k, lf k ≤ 8 := fun k => by
    rw [hlf]
    exact Nat.le_trans (lfH_le _ _) n8
  obtain ⟨x0, a1, a2, a3⟩ := kbeg c (qF.rf kL m)
  obtain ⟨x1, b1, b2, b3⟩ := kthk (n := n) a2 v (t.2.2.2.2.1.kL a3) t.2.2.2.2.2.2 hl (by omega) a3
  have hleft : f_X1_left 21 x1 = some (nI q0) := by
    have := kleft (h := 20) b2.1 hv.1.1
    rw [hv.2.1, ← hq0] at this
    exact this
  obtain ⟨r1, c1, c2, c3⟩ := lp_at (f := fun q : qaM × Int32 × Int32 => b_X6_odds_75 q.1 (nI s) (nI n) (nI z) (nI p) (nI sd) (nI q0) q.2.1 q.2.2) (fun j q => q.2 = (nI (amF lf q0 j), nI j) ∧ qF kL m q.1) (fun q => q.1 = (nI (odA sd (amF lf q0 sd) p)).toInt64 ∧ qF kL m q.2) sd (s := (x1, nI 0, nI 0)) ⟨rfl, b3⟩ (by omega) (by
    rintro j ⟨x, k⟩ hj ⟨hk, hf⟩
    have hk2 : k = (nI (amF lf q0 j), nI j) := hk
    replace hf : qF kL m x := hf
    subst hk2
    show (∃ s', b_X6_odds_75 x (nI s) (nI n) (nI z) (nI p) (nI sd) (nI q0) (nI (amF lf q0 j)) (nI j) = some (.inl s') ∧ _) ∨ (∃ q, b_X6_odds_75 x (nI s) (nI n) (nI z) (nI p) (nI sd) (nI q0) (nI (amF lf q0 j)) (nI j) = some (.inr q) ∧ _)
    have ham := amF_le lf q0 j
    unfold b_X6_odds_75
    rcases Nat.lt_or_ge j sd with q | q
    · obtain ⟨y0, d1, d2, d3⟩ := kbeg (c.kL hf) hf
      obtain ⟨y1, e1, e2, e3⟩ := klot (sd := nI (s + j)) (od := nI od) (n := n) d2 v (t.2.2.2.2.1.kL d3) t.2.2.2.2.2.2 hl (by omega) d3
      rw [lot_e (by omega)] at e2
      have hv2 := lot_V (S := S) (n := n) (x0 := (nI (s + j)).toInt64 + 1) (od := nI od) v
      have hl2 : f_X1_left 21 y1 = some (nI (lf j)) := by
        have := kleft (h := 20) e2.1 hv2.1.1
        rw [hv2.2.1.1, ← hlf] at this
        exact this
      have h8 := hlf8 j
      refine Or.inl ⟨(y1, nI (amF lf q0 (j + 1)), nI (j + 1)), ?_, q, rfl, e3⟩
      simp only [li_0, li_1, li_2, li_3, li_4, li_5, li_6, li_7, li_8, li_9, li_10, li_11, li_12, li_13, li_14, li_15, li_16, li_17, li_18, li_19, li_20, li_30, li_31, li_32, li_33, li_40, li_41, li_42, li_43, li_45, li_48, li_56, li_57, li_59, li_60, li_61, li_64, li_91, li_97, li_99, li_100, li_122, li_150, li_160, li_200, li_201, li_255, li_300, li_303, li_304, li_305, li_306, li_312, li_400, li_500, li_999, li_1003, li_3099, li_99999, li_100000, li_1000000, li_65, li_23, li_neg]
      rw [ic_le_f q (by omega), d1, Option.bind_some, pu_add, pu_dm (by omega) (by omega) (by omega), ← hod, e1, Option.bind_some, hl2, Option.bind_some, amF_s]
      by_cases w : lf j < q0
      · rw [if_pos (nI_lt w (by omega)), if_pos w]
        ((try simp only [b_X6_odds_127, Nat.add_zero, li_0, li_1, li_2, li_3, li_4, li_5, li_6, li_7, li_8, li_9, li_10, li_11, li_12, li_13, li_14, li_15, li_16, li_17, li_18, li_19, li_20, li_30, li_31, li_32, li_33, li_40, li_41, li_42, li_43, li_45, li_48, li_56, li_57, li_59, li_60, li_61, li_64, li_91, li_97, li_99, li_100, li_122, li_150, li_160, li_200, li_201, li_255, li_300, li_303, li_304, li_305, li_306, li_312, li_400, li_500, li_999, li_1003, li_3099, li_99999, li_100000, li_1000000, li_65, li_23, li_neg]); (try simp (disch := omega) only [b_X6_odds_127, Nat.add_zero, ic_le_f, ic_le_t, ic_lt_f, ic_lt_t, ic_eq_f, ic_eq_t, ic_im, ic_mi, ic_mm_t, ic_mm_f, ic_mlt, ic_mle, ic_ilem, ic_iltm, ic_mmle_t, ic_mmle_f, pu_add, pu_mul, pu_in, pu_ck, pu_let, pu_cl, pu_cpok, pu_inr, Option.bind_some, ite_true, ite_false, pu_dm, pu_dv, pu_sub, nt_dm, if_true, if_false]))
      · rw [if_neg (nI_nlt (by omega) (by omega)), if_neg w]
        ((try simp only [b_X6_odds_127, li_0, li_1, li_2, li_3, li_4, li_5, li_6, li_7, li_8, li_9, li_10, li_11, li_12, li_13, li_14, li_15, li_16, li_17, li_18, li_19, li_20, li_30, li_31, li_32, li_33, li_40, li_41, li_42, li_43, li_45, li_48, li_56, li_57, li_59, li_60, li_61, li_64, li_91, li_97, li_99, li_100, li_122, li_150, li_160, li_200, li_201, li_255, li_300, li_303, li_304, li_305, li_306, li_312, li_400, li_500, li_999, li_1003, li_3099, li_99999, li_100000, li_1000000, li_65, li_23, li_neg]); (try simp (disch := omega) only [b_X6_odds_127, ic_le_f, ic_le_t, ic_lt_f, ic_lt_t, ic_eq_f, ic_eq_t, ic_im, ic_mi, ic_mm_t, ic_mm_f, ic_mlt, ic_mle, ic_ilem, ic_iltm, ic_mmle_t, ic_mmle_f, pu_add, pu_mul, pu_in, pu_ck, pu_let, pu_cl, pu_cpok, pu_inr, Option.bind_some, ite_true, ite_false, pu_dm, pu_dv, pu_sub, nt_dm, if_true, if_false]))
    · have : j = sd := by omega
      subst this
      refine Or.inr ⟨((nI (odA j (amF lf q0 j) p)).toInt64, x), ?_, rfl, hf⟩
      rw [ic_le_t (by omega) (by omega), k133 hsd0 hsd30 (by omega) hp]
      rfl)
  have r1m : MH r1.2 H := r.cl c3 (by decide)
  have tr := t.2.2.2.2.2.1.F c3 (by decide) (by decide)
  obtain ⟨u1, go, d1, d2, d3, d4, d5, d6⟩ := r7thk (n := n) r1m v tr t.2.2.2.2.2.2 hl (by omega) (qF.rf _ _) (o36l.rf _ _)
  have hlm : f_X7_leftMany u1 = some (nI q0) := by
    rw [hq0]
    exact r7leftMany d2.2.2.2.1 n8 d4 hv.1.1.av
  obtain ⟨r2, e1, e2, e3, e4, e5⟩ := lp_at (f := fun q : qaM × Int64 × Int32 => b_X7_odds_73 q.1 (nI s) (nI n) (nI z) (nI p) (nI q0) q.2.1 q.2.2) (fun j q => q.2 = ((nI (amF lf q0 j)).toInt64, nI j) ∧ MH q.1 H ∧ qF rL r1.2 q.1 ∧ o36l oL r1.2 q.1) (fun q => q.1 = (nI (odA sd (amF lf q0 sd) p)).toInt64 ∧ MH q.2 H ∧ qF rL r1.2 q.2 ∧ o36l oL r1.2 q.2) sd (s := (u1, 0, nI 0)) ⟨by rw [nL_0]; rfl, d2, d5, d6⟩ (by omega) (by
    rintro j ⟨x, k⟩ hj ⟨hk, hm, hf, ho⟩
    have hk2 : k = ((nI (amF lf q0 j)).toInt64, nI j) := hk
    replace hf : qF rL r1.2 x := hf
    replace ho : o36l oL r1.2 x := ho
    replace hm : MH x H := hm
    subst hk2
    show (∃ s', b_X7_odds_73 x (nI s) (nI n) (nI z) (nI p) (nI q0) (nI (amF lf q0 j)).toInt64 (nI j) = some (.inl s') ∧ _) ∨ (∃ q, b_X7_odds_73 x (nI s) (nI n) (nI z) (nI p) (nI q0) (nI (amF lf q0 j)).toInt64 (nI j) = some (.inr q) ∧ _)
    have ham := amF_le lf q0 j
    unfold b_X7_odds_73
    simp only [li_0, li_1, li_2, li_3, li_4, li_5, li_6, li_7, li_8, li_9, li_10, li_11, li_12, li_13, li_14, li_15, li_16, li_17, li_18, li_19, li_20, li_30, li_31, li_32, li_33, li_40, li_41, li_42, li_43, li_45, li_48, li_56, li_57, li_59, li_60, li_61, li_64, li_91, li_97, li_99, li_100, li_122, li_150, li_160, li_200, li_201, li_255, li_300, li_303, li_304, li_305, li_306, li_312, li_400, li_500, li_999, li_1003, li_3099, li_99999, li_100000, li_1000000, li_65, li_23, li_neg]
    rw [pu_dv (by omega) (by omega) (by omega), ← hsd]
    rcases Nat.lt_or_ge j sd with q | q
    · obtain ⟨y1, go2, k1, k2, k3, k4, k5, k6⟩ := r7lot (sd := nI (s + j)) (od := nI od) (n := n) hm v (tr.rL hf) t.2.2.2.2.2.2 hl (by omega) hf ho
      have hv2 := lot_V (S := S) (n := n) (x0 := (nI (s + j)).toInt64 + 1) (od := nI od) v
      have hl2 : f_X7_leftMany y1 = some (nI (lf j)) := by
        rw [hlf]
        exact r7leftMany k2.2.2.2.1 n8 k4 hv2.1.1.av
      have h8 := hlf8 j
      refine Or.inl ⟨(y1, (nI (amF lf q0 (j + 1))).toInt64, nI (j + 1)), ?_, q, rfl, k2, k5, k6⟩
      have hmod : nI z - nI sd * nI 100 = nI od := by
        rw [pu_mul, pu_sub (by omega), show z - sd * 100 = od by omega]
      rw [ic_le_f q (by omega), pu_add, hmod, k1, Option.bind_some, hl2, Option.bind_some, amF_s]
      by_cases w : lf j < q0
      · rw [if_pos (nI_lt w (by omega)), if_pos w]
        unfold b_X7_odds_111
        simp only [li_0, li_1, li_2, li_3, li_4, li_5, li_6, li_7, li_8, li_9, li_10, li_11, li_12, li_13, li_14, li_15, li_16, li_17, li_18, li_19, li_20, li_30, li_31, li_32, li_33, li_40, li_41, li_42, li_43, li_45, li_48, li_56, li_57, li_59, li_60, li_61, li_64, li_91, li_97, li_99, li_100, li_122, li_150, li_160, li_200, li_201, li_255, li_300, li_303, li_304, li_305, li_306, li_312, li_400, li_500, li_999, li_1003, li_3099, li_99999, li_100000, li_1000000, li_65, li_23, li_neg]
        rw [pu_let, pu_let, pu_add, Int64.add_zero]
        rfl
      · rw [if_neg (nI_nlt (by omega) (by omega)), if_neg w]
        unfold b_X7_odds_111
        simp only [li_0, li_1, li_2, li_3, li_4, li_5, li_6, li_7, li_8, li_9, li_10, li_11, li_12, li_13, li_14, li_15, li_16, li_17, li_18, li_19, li_20, li_30, li_31, li_32, li_33, li_40, li_41, li_42, li_43, li_45, li_48, li_56, li_57, li_59, li_60, li_61, li_64, li_91, li_97, li_99, li_100, li_122, li_150, li_160, li_200, li_201, li_255, li_300, li_303, li_304, li_305, li_306, li_312, li_400, li_500, li_999, li_1003, li_3099, li_99999, li_100000, li_1000000, li_65, li_23, li_neg]
        rw [pu_let, pu_let, pu_add, i64_s (by omega)]
    · have : j = sd := by omega
      subst this
      refine Or.inr ⟨((nI (odA j (amF lf q0 j) p)).toInt64, x), ?_, rfl, hm, hf, ho⟩
      rw [ic_le_t (by omega) (by omega), r7_120 hsd.symm (by omega) hsd0 hsd30 (by omega) hp]
      rfl)
  refine ⟨(nI (odA sd (amF lf q0 sd) p)).toInt64, r1.2, r2.2, ?_, ?_, Rel.thk hD c3 e4 e5 e3⟩
  · unfold f_X6_odds f_X6_thinks
    simp only [li_0, li_1, li_2, li_3, li_4, li_5, li_6, li_7, li_8, li_9, li_10, li_11, li_12, li_13, li_14, li_15, li_16, li_17, li_18, li_19, li_20, li_30, li_31, li_32, li_33, li_40, li_41, li_42, li_43, li_45, li_48, li_56, li_57, li_59, li_60, li_61, li_64, li_91, li_97, li_99, li_100, li_122, li_150, li_160, li_200, li_201, li_255, li_300, li_303, li_304, li_305, li_306, li_312, li_400, li_500, li_999, li_1003, li_3099, li_99999, li_100000, li_1000000, li_65, li_23, li_neg]
    rw [sd6_ok hs, Option.bind_some, if_neg n10, wk6_ok hn, Option.bind_some, if_neg n10, if_neg (nI_nlt (Nat.zero_le _) (by omega)), if_pos (nI_le hp (by omega)), pu_let, pu_dv (by omega) (by omega) (by omega), ← hsd, if_neg (nI_nlt hz1 (by omega)), if_pos (nI_le hsd30 (by omega)), a1, Option.bind_some, b1, Option.bind_some, Option.bind_some, hleft, Option.bind_some, lp_X6_odds_75, c1, ← c2]
  · have hin : f_X7_in r1.2 (nI z) (nI 100) (nI 3099) = some (nI 1) := by rw [r7in (by omega) (by omega) (by omega), if_pos ⟨hz1, hz2⟩]
    unfold f_X7_odds
    simp only [li_0, li_1, li_2, li_3, li_4, li_5, li_6, li_7, li_8, li_9, li_10, li_11, li_12, li_13, li_14, li_15, li_16, li_17, li_18, li_19, li_20, li_30, li_31, li_32, li_33, li_40, li_41, li_42, li_43, li_45, li_48, li_56, li_57, li_59, li_60, li_61, li_64, li_91, li_97, li_99, li_100, li_122, li_150, li_160, li_200, li_201, li_255, li_300, li_303, li_304, li_305, li_306, li_312, li_400, li_500, li_999, li_1003, li_3099, li_99999, li_100000, li_1000000, li_65, li_23, li_neg]
    rw [in7_ok hs (by omega), Option.bind_some, if_neg n10, r7areWeeks hn, Option.bind_some, if_neg n10, hin, Option.bind_some, if_neg n10, in7_ok hp (by omega), Option.bind_some, if_neg n10]
    unfold b_X7_odds_45
    simp only [li_0, li_1, li_2, li_3, li_4, li_5, li_6, li_7, li_8, li_9, li_10, li_11, li_12, li_13, li_14, li_15, li_16, li_17, li_18, li_19, li_20, li_30, li_31, li_32, li_33, li_40, li_41, li_42, li_43, li_45, li_48, li_56, li_57, li_59, li_60, li_61, li_64, li_91, li_97, li_99, li_100, li_122, li_150, li_160, li_200, li_201, li_255, li_300, li_303, li_304, li_305, li_306, li_312, li_400, li_500, li_999, li_1003, li_3099, li_99999, li_100000, li_1000000, li_65, li_23, li_neg]
    rw [if_neg n10, d1, Option.bind_some, hlm, Option.bind_some, pu_let, lp_X7_odds_73, e1, ← e2]
