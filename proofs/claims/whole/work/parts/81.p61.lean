/-! PURE: buy -/
def nwA (k mo w : Nat) : AL := fun f => if f = 0 then k else if f = 1 then mo else if f = 2 then w else 0
def byH (H : HS) (k mo w : Nat) : HS := (H.n + 1, fun j => if j = H.n then nwA k mo w else H.A j, H.P, H.R, H.wk, H.lw)
def buyH (H : HS) (k mo w : Nat) : HS := (byH H k mo w).lay H.n
theorem byH_n {H : HS} {k mo w j : Nat} (h : j ≠ H.n) : (byH H k mo w).A j = H.A j := if_neg h
theorem byH_s (H : HS) (k mo w : Nat) : (byH H k mo w).A H.n = nwA k mo w := if_pos rfl
theorem byH_V {H : HS} {k mo w : Nat} (v : HV H) (hn : H.n < 8) (hk : k ≤ 5) (hm : mo ≤ 9) (hw : w ≤ 999) : HV (byH H k mo w) := by
  refine ⟨by show H.n + 1 ≤ 8; omega, fun j => ?_, v.nd, fun x hx => Nat.lt_succ_of_lt (v.lt x hx), fun x hx => ?_, fun j hj => ?_, v.rs⟩
  · by_cases q : j = H.n
    · rw [q, byH_s]
      exact ⟨hk, hm, hw, Nat.zero_le _, Nat.zero_le _, Nat.zero_le _, Nat.zero_le _, Nat.zero_le _⟩
    · rw [byH_n q]
      exact v.av j
  · have := v.lt x hx
    rw [byH_n (by omega)]
    exact v.fr x hx
  · have hj2 : H.n + 1 ≤ j := hj
    rw [byH_n (by omega)]
    exact v.zr j (by omega)
theorem buyH_V {H : HS} {k mo w : Nat} (v : HV H) (hn : H.n < 8) (hk : k ≤ 5) (hm : mo ≤ 9) (hw : w ≤ 999) : HV (buyH H k mo w) := by
  refine HV.lay (byH_V v hn hk hm hw) (Nat.lt_succ_self H.n) (fun q => Nat.lt_irrefl _ (v.lt _ q)) ?_
  rw [byH_s]
  exact ⟨rfl, rfl⟩
theorem kbuy {m : qaM} {H : HS} {z w : Nat} (c : CH m 8 H) (v : HV H) (hn : H.n < 8) (hz : z ≤ 59) (hw : w ≤ 999) : ∃ m2, f_X6_buy m (nI z) (nI w) = some (nI H.n, m2) ∧ CH m2 8 (buyH H (z / 10) (z % 10) w) ∧ qF [9, 10, 11, 12] m m2 := by
  have p8 := v.len
  obtain ⟨m1, a1, a2, a3⟩ := notes_ok (k := 0) (v := nI (z / 10)) c.1 hn (by omega)
  obtain ⟨m2, b1, b2, b3⟩ := notes_ok (k := 1) (v := nI (z % 10)) a2 hn (by omega)
  obtain ⟨m3, d1, d2, d3⟩ := notes_ok (k := 2) (v := nI w) b2 hn (by omega)
  have f3 : qF [10] m m3 := (a3.t2 b3 (by simp)).t2 d3 (by simp)
  have f4 : qF [9, 10] m (qa_st m3 9 0 (nI (H.n + 1))) := (f3.mo (by simp)).stl (by simp)
  have c4 : CH (qa_st m3 9 0 (nI (H.n + 1))) 8 (byH H (z / 10) (z % 10) w) := by
    refine ⟨⟨?_, by show H.n + 1 ≤ 8; omega, fun i k hi hk => ?_⟩, c.2.1.F f4 (by decide) (by decide), ?_⟩
    · rw [st_s, up_s]
      rfl
    · rw [st_n (by omega), d2.2.2 i k hi hk]
      unfold fU
      by_cases q : i = H.n
      · subst q
        have hz := v.zr H.n (Nat.le_refl _)
        have h0 : cF (byH H (z / 10) (z % 10) w).A H.n k = nI (nwA (z / 10) (z % 10) w k) := by
          unfold cF
          rw [byH_s, if_neg (fun y => absurd y.2 (by show ¬ (0 : Nat) = 1; omega))]
        rw [h0]
        by_cases k2 : k = 2
        · rw [if_pos ⟨rfl, k2⟩, k2]
          rfl
        · rw [if_neg (fun y => k2 y.2)]
          by_cases k1 : k = 1
          · rw [if_pos ⟨rfl, k1⟩, k1]
            rfl
          · rw [if_neg (fun y => k1 y.2)]
            by_cases k0 : k = 0
            · rw [if_pos ⟨rfl, k0⟩, k0]
              rfl
            · rw [if_neg (fun y => k0 y.2)]
              unfold cF nwA
              rw [hz, if_neg (fun y => absurd y.2 (by show ¬ (0 : Nat) = 1; omega)), if_neg k0, if_neg k1, if_neg k2]
              rfl
      · rw [if_neg (fun y => q y.1), if_neg (fun y => q y.1), if_neg (fun y => q y.1)]
        unfold cF
        rw [byH_n q]
    · rw [f4 13 (by decide), f4 8 (by decide)]
      exact c.2.2
  have vb := byH_V (k := z / 10) (mo := z % 10) (w := w) v hn (by omega) (by omega) hw
  obtain ⟨m5, e1, e2, e3⟩ := claysDown (h := 8) (i := H.n) c4 hn (show H.P.length < 8 by omega) vb.i8 v.rs.2.2.2.1
  refine ⟨m5, ?_, e2, (f4.mo (by simp)).t2 e3 (by simp)⟩
  have h9 : m 9 0 = nI H.n := c.1.1
  have h39 : m3 9 0 = nI H.n := by rw [f3 9 (by decide), h9]
  have hz10 : z / 10 < 6 := by omega
  unfold f_X6_buy
  rw [h9]
  ((try simp only [li_0, li_1, li_2, li_3, li_4, li_5, li_6, li_7, li_8, li_9, li_10, li_11, li_12, li_13, li_14, li_15, li_16, li_17, li_18, li_19, li_20, li_30, li_31, li_32, li_33, li_40, li_41, li_42, li_43, li_45, li_48, li_56, li_57, li_59, li_60, li_61, li_64, li_91, li_97, li_99, li_100, li_122, li_150, li_160, li_200, li_201, li_255, li_300, li_303, li_304, li_305, li_306, li_312, li_400, li_500, li_999, li_1003, li_3099, li_99999, li_100000, li_1000000, li_65, li_23, li_neg]); (try simp (disch := omega) only [ic_le_f, ic_le_t, ic_lt_f, ic_lt_t, ic_eq_f, ic_eq_t, ic_im, ic_mi, ic_mm_t, ic_mm_f, ic_mlt, ic_mle, ic_ilem, ic_iltm, ic_mmle_t, ic_mmle_f, pu_add, pu_mul, pu_in, pu_ck, pu_let, pu_cl, pu_cpok, pu_inr, Option.bind_some, ite_true, ite_false, pu_dm, pu_dv, pu_sub, nt_dm, if_true, if_false]))
  unfold f_X1_adds
  simp only [li_0, li_1, li_2, li_3, li_4, li_5, li_6, li_7, li_8, li_9, li_10, li_11, li_12, li_13, li_14, li_15, li_16, li_17, li_18, li_19, li_20, li_30, li_31, li_32, li_33, li_40, li_41, li_42, li_43, li_45, li_48, li_56, li_57, li_59, li_60, li_61, li_64, li_91, li_97, li_99, li_100, li_122, li_150, li_160, li_200, li_201, li_255, li_300, li_303, li_304, li_305, li_306, li_312, li_400, li_500, li_999, li_1003, li_3099, li_99999, li_100000, li_1000000, li_65, li_23, li_neg]
  rw [h9, pu_let, a1, Option.bind_some, b1, Option.bind_some, d1, Option.bind_some, h39, pu_add, pu_let, Option.bind_some, e1, Option.bind_some]
theorem r7buy {m : qaM} {H : HS} {z w : Nat} (c : MH m H) (v : HV H) (hn : H.n < 8) (hz : z ≤ 59) (hw : w ≤ 999) : ∃ m2, f_X7_buy m (nI z) (nI w) = some (nI H.n, m2) ∧ MH m2 (buyH H (z / 10) (z % 10) w) ∧ qF [36, 37, 38, 39, 40] m m2 ∧ o36l [0, 5] m m2 := by
  have p8 := v.len
  have h0 : m 36 0 = nI H.n := c.2.2.2.1
  have f1 : qF [37, 38] m (qa_st (qa_st m 37 H.n (nI (z / 10))) 38 H.n (nI (z % 10))) := ((qF.rf _ m).stl (by simp)).stl (by simp)
  obtain ⟨m3, d1, d2, d3⟩ := fillL (f := fun q : qaM × Int32 => b_X7_buy_64 q.1 (nI w) q.2) (g := fun x => b_X7_buy_99 x) 39 (6 * H.n) 6 (fun k => if k = 0 then nI w else nI 0) (qa_st (qa_st m 37 H.n (nI (z / 10))) 38 H.n (nI (z % 10))) (by omega) (by
    intro x j hj hf hx
    have hx0 : x 36 0 = nI H.n := by rw [hf 36 (by decide), f1 36 (by decide), h0]
    show b_X7_buy_64 x (nI w) (nI j) = _
    unfold b_X7_buy_64
    rw [hx0]
    by_cases j0 : j = 0
    · rw [if_pos j0, j0]
      ((try simp only [b_X7_buy_92, li_0, li_1, li_2, li_3, li_4, li_5, li_6, li_7, li_8, li_9, li_10, li_11, li_12, li_13, li_14, li_15, li_16, li_17, li_18, li_19, li_20, li_30, li_31, li_32, li_33, li_40, li_41, li_42, li_43, li_45, li_48, li_56, li_57, li_59, li_60, li_61, li_64, li_91, li_97, li_99, li_100, li_122, li_150, li_160, li_200, li_201, li_255, li_300, li_303, li_304, li_305, li_306, li_312, li_400, li_500, li_999, li_1003, li_3099, li_99999, li_100000, li_1000000, li_65, li_23, li_neg]); (try simp (disch := omega) only [b_X7_buy_92, ic_le_f, ic_le_t, ic_lt_f, ic_lt_t, ic_eq_f, ic_eq_t, ic_im, ic_mi, ic_mm_t, ic_mm_f, ic_mlt, ic_mle, ic_ilem, ic_iltm, ic_mmle_t, ic_mmle_f, pu_add, pu_mul, pu_in, pu_ck, pu_let, pu_cl, pu_cpok, pu_inr, Option.bind_some, ite_true, ite_false, pu_dm, pu_dv, pu_sub, nt_dm, if_true, if_false]))
    · rw [if_neg j0]
      ((try simp only [b_X7_buy_92, li_0, li_1, li_2, li_3, li_4, li_5, li_6, li_7, li_8, li_9, li_10, li_11, li_12, li_13, li_14, li_15, li_16, li_17, li_18, li_19, li_20, li_30, li_31, li_32, li_33, li_40, li_41, li_42, li_43, li_45, li_48, li_56, li_57, li_59, li_60, li_61, li_64, li_91, li_97, li_99, li_100, li_122, li_150, li_160, li_200, li_201, li_255, li_300, li_303, li_304, li_305, li_306, li_312, li_400, li_500, li_999, li_1003, li_3099, li_99999, li_100000, li_1000000, li_65, li_23, li_neg]); (try simp (disch := omega) only [b_X7_buy_92, ic_le_f, ic_le_t, ic_lt_f, ic_lt_t, ic_eq_f, ic_eq_t, ic_im, ic_mi, ic_mm_t, ic_mm_f, ic_mlt, ic_mle, ic_ilem, ic_iltm, ic_mmle_t, ic_mmle_f, pu_add, pu_mul, pu_in, pu_ck, pu_let, pu_cl, pu_cpok, pu_inr, Option.bind_some, ite_true, ite_false, pu_dm, pu_dv, pu_sub, nt_dm, if_true, if_false]))) (by
    intro x hf
    show b_X7_buy_64 x (nI w) (nI 6) = _
    unfold b_X7_buy_64
    ((try simp only [li_0, li_1, li_2, li_3, li_4, li_5, li_6, li_7, li_8, li_9, li_10, li_11, li_12, li_13, li_14, li_15, li_16, li_17, li_18, li_19, li_20, li_30, li_31, li_32, li_33, li_40, li_41, li_42, li_43, li_45, li_48, li_56, li_57, li_59, li_60, li_61, li_64, li_91, li_97, li_99, li_100, li_122, li_150, li_160, li_200, li_201, li_255, li_300, li_303, li_304, li_305, li_306, li_312, li_400, li_500, li_999, li_1003, li_3099, li_99999, li_100000, li_1000000, li_65, li_23, li_neg]); (try simp (disch := omega) only [ic_le_f, ic_le_t, ic_lt_f, ic_lt_t, ic_eq_f, ic_eq_t, ic_im, ic_mi, ic_mm_t, ic_mm_f, ic_mlt, ic_mle, ic_ilem, ic_iltm, ic_mmle_t, ic_mmle_f, pu_add, pu_mul, pu_in, pu_ck, pu_let, pu_cl, pu_cpok, pu_inr, Option.bind_some, ite_true, ite_false, pu_dm, pu_dv, pu_sub, nt_dm, if_true, if_false])))
  have f3 : qF [37, 38, 39] m m3 := (f1.mo (by simp)).t2 d3 (by simp)
  have c3 : MH m3 H := by
    refine ⟨⟨fun i hi => ?_, fun i hi => ?_, fun i k hi hk h4 => ?_⟩, ?_, ?_, ?_⟩
    · rw [d3 37 (by decide), st_n (by omega), st_s, up_n (by omega)]
      exact c.1.1 i hi
    · rw [d3 38 (by decide), st_s, up_n (by omega), st_n (by omega)]
      exact c.1.2.1 i hi
    · rw [d2, if_neg (by omega), f1 39 (by decide)]
      exact c.1.2.2 i k hi hk h4
    · have h2 := c.2.1
      unfold RP at h2 ⊢
      rw [f3 36 (by decide), f3 40 (by decide)]
      exact h2
    · rw [f3 41 (by decide)]
      exact c.2.2.1
    · rw [f3 36 (by decide)]
      exact c.2.2.2
  obtain ⟨m4, e1, e2, e3, e4⟩ := r7lays (i := H.n) c3 hn (by omega) v.i8 v.rs.2.2.2.1
  have h40 : m4 36 0 = nI H.n := e2.2.2.2.1
  have f5 : qF [36] m4 (qa_st m4 36 0 (nI (H.n + 1))) := qF.st _ _ _ _
  have e5 : ∀ k : Nat, k ≠ 0 → qa_st m4 36 0 (nI (H.n + 1)) 36 k = m4 36 k := fun k hk => by rw [st_s, up_n hk]
  refine ⟨qa_st m4 36 0 (nI (H.n + 1)), ?_, ⟨⟨fun i hi => ?_, fun i hi => ?_, fun i k hi hk h4 => ?_⟩, ?_, ?_, ?_, ?_, ?_⟩, ((f3.mo (by simp)).t2 e3 (by simp)).t2 f5 (by simp), (o36l.q (k := []) f3 (by simp)).tr ((e4.l (l := [0, 5]) (by simp)).tr (o36l.st _ _ _) (fun _ z => z) (by simp)) (by simp) (fun _ z => z)⟩
  · have hz10 : z / 10 < 6 := by omega
    unfold f_X7_buy
    simp only [li_0, li_1, li_2, li_3, li_4, li_5, li_6, li_7, li_8, li_9, li_10, li_11, li_12, li_13, li_14, li_15, li_16, li_17, li_18, li_19, li_20, li_30, li_31, li_32, li_33, li_40, li_41, li_42, li_43, li_45, li_48, li_56, li_57, li_59, li_60, li_61, li_64, li_91, li_97, li_99, li_100, li_122, li_150, li_160, li_200, li_201, li_255, li_300, li_303, li_304, li_305, li_306, li_312, li_400, li_500, li_999, li_1003, li_3099, li_99999, li_100000, li_1000000, li_65, li_23, li_neg]
    rw [in7_ok hz (by omega), Option.bind_some, if_neg n10, in7_ok hw (by omega), Option.bind_some, if_neg n10, h0, ic_eq_f (by omega) (by omega) (by omega), pu_in (by omega) (by omega), pu_ck, pu_cl (by omega), pu_dv (by omega) (by omega) (by omega), pu_let, st_n (show (36 : Nat) ≠ 37 by omega), h0, pu_in (by omega) (by omega), pu_ck, pu_cl (by omega), pu_let]
    have hmod : nI z - nI (z / 10) * nI 10 = nI (z % 10) := by
      rw [pu_mul, pu_sub (by omega), nt_dm]
    rw [hmod, lp_X7_buy_64, d1]
    unfold b_X7_buy_99
    rw [f3 36 (by decide), h0, e1, Option.bind_some, h40]
    simp only [li_0, li_1, li_2, li_3, li_4, li_5, li_6, li_7, li_8, li_9, li_10, li_11, li_12, li_13, li_14, li_15, li_16, li_17, li_18, li_19, li_20, li_30, li_31, li_32, li_33, li_40, li_41, li_42, li_43, li_45, li_48, li_56, li_57, li_59, li_60, li_61, li_64, li_91, li_97, li_99, li_100, li_122, li_150, li_160, li_200, li_201, li_255, li_300, li_303, li_304, li_305, li_306, li_312, li_400, li_500, li_999, li_1003, li_3099, li_99999, li_100000, li_1000000, li_65, li_23, li_neg]
    rw [pu_add, pu_let, st_s, up_s, pu_sub (by omega)]
    rfl
  · have hi2 : i < H.n + 1 := hi
    rw [f5 37 (by decide), e3 37 (by decide), d3 37 (by decide), st_n (by omega), st_s]
    by_cases q : i = H.n
    · rw [q, up_s]
      show _ = nI ((byH H (z / 10) (z % 10) w).A H.n 0)
      rw [byH_s]
      rfl
    · rw [up_n q]
      show _ = nI ((byH H (z / 10) (z % 10) w).A i 0)
      rw [byH_n q]
      exact c.1.1 i (by omega)
  · have hi2 : i < H.n + 1 := hi
    rw [f5 38 (by decide), e3 38 (by decide), d3 38 (by decide), st_s, st_n (by omega)]
    by_cases q : i = H.n
    · rw [q, up_s]
      show _ = nI ((byH H (z / 10) (z % 10) w).A H.n 1)
      rw [byH_s]
      rfl
    · rw [up_n q]
      show _ = nI ((byH H (z / 10) (z % 10) w).A i 1)
      rw [byH_n q]
      exact c.1.2.1 i (by omega)
  · have hi2 : i < H.n + 1 := hi
    rw [f5 39 (by decide), e3 39 (by decide)]
    show _ = nI ((byH H (z / 10) (z % 10) w).A i (k + 2))
    replace h4 : k = 4 → (byH H (z / 10) (z % 10) w).A i 7 = 0 := h4
    by_cases q : i = H.n
    · subst q
      rw [byH_s, d2, if_pos (by omega), show 6 * H.n + k - 6 * H.n = k by omega]
      unfold nwA
      by_cases k0 : k = 0
      · rw [k0]
        rfl
      · rw [if_neg k0, if_neg (by omega), if_neg (by omega), if_neg (by omega)]
    · rw [byH_n q] at h4 ⊢
      rw [d2, if_neg (by omega), f1 39 (by decide)]
      exact c.1.2.2 i k (by omega) hk h4
  · have h2 := e2.2.1
    unfold RP at h2 ⊢
    rw [e5 5 (by omega), f5 40 (by decide)]
    exact h2
  · rw [f5 41 (by decide)]
    exact e2.2.2.1
  · rw [st_s, up_s]
    rfl
  · rw [e5 7 (by omega)]
    exact e2.2.2.2.2.1
  · rw [e5 13 (by omega)]
    exact e2.2.2.2.2.2
/-- whatever is asked for: the house after, the answer -/
def byO (a b : Int32) : Prop := ∃ z w : Nat, z ≤ 59 ∧ w ≤ 999 ∧ a = nI z ∧ b = nI w
theorem nI_c {z : Nat} (h : z < 2 ^ 31) : (nI z).toNatClampNeg = z := pu_cl h
theorem byE (H : HS) (a b : Int32) : ∃ (K : HS) (r : Int32), ((¬ byO a b ∧ K = H ∧ r = nM 2) ∨ (byO a b ∧ H.n = 8 ∧ K = H ∧ r = nM 4) ∨ (byO a b ∧ ¬ H.n = 8 ∧ K = buyH H (a.toNatClampNeg / 10) (a.toNatClampNeg % 10) b.toNatClampNeg ∧ r = nI H.n)) := by
  by_cases h : byO a b
  · by_cases h8 : H.n = 8
    · exact ⟨_, _, Or.inr (Or.inl ⟨h, h8, rfl, rfl⟩)⟩
    · exact ⟨_, _, Or.inr (Or.inr ⟨h, h8, rfl, rfl⟩)⟩
  · exact ⟨_, _, Or.inl ⟨h, rfl, rfl⟩⟩
noncomputable def buyN (H : HS) (a b : Int32) : HS := (byE H a b).choose
noncomputable def buyA (H : HS) (a b : Int32) : Int32 := (byE H a b).choose_spec.choose
theorem buyNA (H : HS) (a b : Int32) : (¬ byO a b ∧ buyN H a b = H ∧ buyA H a b = nM 2) ∨ (byO a b ∧ H.n = 8 ∧ buyN H a b = H ∧ buyA H a b = nM 4) ∨ (byO a b ∧ ¬ H.n = 8 ∧ buyN H a b = buyH H (a.toNatClampNeg / 10) (a.toNatClampNeg % 10) b.toNatClampNeg ∧ buyA H a b = nI H.n) := (byE H a b).choose_spec.choose_spec
theorem byNo {a b : Int32} (h : ¬ byO a b) : BX 59 60 a ∨ (∃ z : Nat, z ≤ 59 ∧ a = nI z) ∧ BX 999 1000 b := by
  rcases upTo 59 60 rfl (by omega) a with ⟨z, hz, e⟩ | hx
  · rcases upTo 999 1000 rfl (by omega) b with ⟨w, hw, e2⟩ | hx
    · exact absurd ⟨z, w, hz, hw, e, e2⟩ h
    · exact Or.inr ⟨⟨z, hz, e⟩, hx⟩
  · exact Or.inl hx
theorem kbuyA {m : qaM} {H : HS} (a b : Int32) (c : CH m 8 H) (v : HV H) : ∃ m2, f_X6_buy m a b = some (buyA H a b, m2) ∧ CH m2 8 (buyN H a b) ∧ qF [9, 10, 11, 12] m m2 := by
  have n8 := v.n8
  rcases buyNA H a b with ⟨h1, h2, h3⟩ | ⟨h1, h8, h2, h3⟩ | ⟨h1, h8, h2, h3⟩
  · rw [h2, h3]
    refine ⟨m, ?_, c, qF.rf _ _⟩
    rcases byNo h1 with hx | ⟨⟨z, hz, rfl⟩, hx⟩
    · unfold f_X6_buy
      simp only [li_0, li_1, li_2, li_3, li_4, li_5, li_6, li_7, li_8, li_9, li_10, li_11, li_12, li_13, li_14, li_15, li_16, li_17, li_18, li_19, li_20, li_30, li_31, li_32, li_33, li_40, li_41, li_42, li_43, li_45, li_48, li_56, li_57, li_59, li_60, li_61, li_64, li_91, li_97, li_99, li_100, li_122, li_150, li_160, li_200, li_201, li_255, li_300, li_303, li_304, li_305, li_306, li_312, li_400, li_500, li_999, li_1003, li_3099, li_99999, li_100000, li_1000000, li_65, li_23, li_neg]
      rcases hx with ⟨g1, g2, g3, g4, g5, g6⟩ | ⟨g1, g2, g3, g4, g5, g6⟩
      · rw [if_pos (of_eq_true g1)]
      · rw [if_neg (of_eq_false g1)]
        rcases anyI a with q | ⟨j, hj, rfl⟩
        · rw [li_0] at q
          exact absurd q (of_eq_false g1)
        · have hj2 : 59 < j := Nat.lt_of_not_le (fun z => absurd (of_eq_true g3) (nI_nlt z (by omega)))
          rw [pu_dv (by omega) (by omega) (by omega), ic_le_t (by omega) (by omega)]
    · unfold f_X6_buy
      simp only [li_0, li_1, li_2, li_3, li_4, li_5, li_6, li_7, li_8, li_9, li_10, li_11, li_12, li_13, li_14, li_15, li_16, li_17, li_18, li_19, li_20, li_30, li_31, li_32, li_33, li_40, li_41, li_42, li_43, li_45, li_48, li_56, li_57, li_59, li_60, li_61, li_64, li_91, li_97, li_99, li_100, li_122, li_150, li_160, li_200, li_201, li_255, li_300, li_303, li_304, li_305, li_306, li_312, li_400, li_500, li_999, li_1003, li_3099, li_99999, li_100000, li_1000000, li_65, li_23, li_neg]
      rw [if_neg (nI_nlt (Nat.zero_le _) (by omega)), pu_dv (by omega) (by omega) (by omega), ic_le_f (by omega) (by omega)]
      rcases hx with ⟨g1, g2, g3, g4, g5, g6⟩ | ⟨g1, g2, g3, g4, g5, g6⟩
      · rw [if_pos (of_eq_true g1)]
      · rw [if_neg (of_eq_false g1), if_neg (of_eq_false g2)]
  · rw [h2, h3]
    obtain ⟨z, w, hz, hw, rfl, rfl⟩ := h1
    refine ⟨m, ?_, c, qF.rf _ _⟩
    have h9 : m 9 0 = nI 8 := by rw [c.1.1, h8]
    unfold f_X6_buy
    simp only [li_0, li_1, li_2, li_3, li_4, li_5, li_6, li_7, li_8, li_9, li_10, li_11, li_12, li_13, li_14, li_15, li_16, li_17, li_18, li_19, li_20, li_30, li_31, li_32, li_33, li_40, li_41, li_42, li_43, li_45, li_48, li_56, li_57, li_59, li_60, li_61, li_64, li_91, li_97, li_99, li_100, li_122, li_150, li_160, li_200, li_201, li_255, li_300, li_303, li_304, li_305, li_306, li_312, li_400, li_500, li_999, li_1003, li_3099, li_99999, li_100000, li_1000000, li_65, li_23, li_neg]
    rw [if_neg (nI_nlt (Nat.zero_le _) (by omega)), pu_dv (by omega) (by omega) (by omega), ic_le_f (by omega) (by omega), if_neg (nI_nlt (Nat.zero_le _) (by omega)), if_pos (nI_le hw (by omega)), h9, ic_lt_f (by omega) (by omega)]
  · rw [h2, h3]
    obtain ⟨z, w, hz, hw, rfl, rfl⟩ := h1
    rw [nI_c (by omega), nI_c (by omega)]
    exact kbuy c v (by omega) hz hw
theorem r7buyA {m : qaM} {H : HS} (a b : Int32) (c : MH m H) (v : HV H) : ∃ m2, f_X7_buy m a b = some (buyA H a b, m2) ∧ MH m2 (buyN H a b) ∧ qF [36, 37, 38, 39, 40] m m2 ∧ o36l [0, 5] m m2 := by
  have n8 := v.n8
  rcases buyNA H a b with ⟨h1, h2, h3⟩ | ⟨h1, h8, h2, h3⟩ | ⟨h1, h8, h2, h3⟩
  · rw [h2, h3]
    refine ⟨m, ?_, c, qF.rf _ _, o36l.rf _ _⟩
    rcases byNo h1 with hx | ⟨⟨z, hz, rfl⟩, hx⟩
    · unfold f_X7_buy
      simp only [li_0, li_1, li_2, li_3, li_4, li_5, li_6, li_7, li_8, li_9, li_10, li_11, li_12, li_13, li_14, li_15, li_16, li_17, li_18, li_19, li_20, li_30, li_31, li_32, li_33, li_40, li_41, li_42, li_43, li_45, li_48, li_56, li_57, li_59, li_60, li_61, li_64, li_91, li_97, li_99, li_100, li_122, li_150, li_160, li_200, li_201, li_255, li_300, li_303, li_304, li_305, li_306, li_312, li_400, li_500, li_999, li_1003, li_3099, li_99999, li_100000, li_1000000, li_65, li_23, li_neg]
      rw [hx.in7, Option.bind_some, if_pos rfl]
    · unfold f_X7_buy
      simp only [li_0, li_1, li_2, li_3, li_4, li_5, li_6, li_7, li_8, li_9, li_10, li_11, li_12, li_13, li_14, li_15, li_16, li_17, li_18, li_19, li_20, li_30, li_31, li_32, li_33, li_40, li_41, li_42, li_43, li_45, li_48, li_56, li_57, li_59, li_60, li_61, li_64, li_91, li_97, li_99, li_100, li_122, li_150, li_160, li_200, li_201, li_255, li_300, li_303, li_304, li_305, li_306, li_312, li_400, li_500, li_999, li_1003, li_3099, li_99999, li_100000, li_1000000, li_65, li_23, li_neg]
      rw [in7_ok hz (by omega), Option.bind_some, if_neg n10, hx.in7, Option.bind_some, if_pos rfl]
  · rw [h2, h3]
    obtain ⟨z, w, hz, hw, rfl, rfl⟩ := h1
    refine ⟨m, ?_, c, qF.rf _ _, o36l.rf _ _⟩
    have h9 : m 36 0 = nI 8 := by rw [c.2.2.2.1, h8]
    unfold f_X7_buy
    simp only [li_0, li_1, li_2, li_3, li_4, li_5, li_6, li_7, li_8, li_9, li_10, li_11, li_12, li_13, li_14, li_15, li_16, li_17, li_18, li_19, li_20, li_30, li_31, li_32, li_33, li_40, li_41, li_42, li_43, li_45, li_48, li_56, li_57, li_59, li_60, li_61, li_64, li_91, li_97, li_99, li_100, li_122, li_150, li_160, li_200, li_201, li_255, li_300, li_303, li_304, li_305, li_306, li_312, li_400, li_500, li_999, li_1003, li_3099, li_99999, li_100000, li_1000000, li_65, li_23, li_neg]
    rw [in7_ok hz (by omega), Option.bind_some, if_neg n10, in7_ok hw (by omega), Option.bind_some, if_neg n10, h9, if_pos rfl]
  · rw [h2, h3]
    obtain ⟨z, w, hz, hw, rfl, rfl⟩ := h1
    rw [nI_c (by omega), nI_c (by omega)]
    exact r7buy c v (by omega) hz hw
/-- what a buying keeps -/
theorem buyN_V {H : HS} (a b : Int32) (v : HV H) : HV (buyN H a b) ∧ H.n ≤ (buyN H a b).n ∧ (∀ i : Nat, i < H.n → (buyN H a b).A i = H.A i) ∧ (buyN H a b).wk = H.wk ∧ (buyN H a b).lw = H.lw ∧ (buyN H a b).R = H.R := by
  have n8 := v.n8
  rcases buyNA H a b with ⟨h1, h2, h3⟩ | ⟨h1, h8, h2, h3⟩ | ⟨h1, h8, h2, h3⟩
  · rw [h2]
    exact ⟨v, Nat.le_refl _, fun _ _ => rfl, rfl, rfl, rfl⟩
  · rw [h2]
    exact ⟨v, Nat.le_refl _, fun _ _ => rfl, rfl, rfl, rfl⟩
  · rw [h2]
    obtain ⟨z, w, hz, hw, rfl, rfl⟩ := h1
    rw [nI_c (by omega), nI_c (by omega)]
    refine ⟨buyH_V v (by omega) (by omega) (by omega) hw, Nat.le_succ _, fun i hi => ?_, rfl, rfl, rfl⟩
    exact byH_n (by omega)
theorem qp_buy : qaP_buy Rel := by
  intro m a b h
  obtain ⟨H, N, S, hD⟩ := h
  have ⟨c, r, v, hl, hw, t, _, _, _, nt⟩ := hD
  obtain ⟨m1, g1, g2, g3⟩ := kbuyA a b c v
  have r1 : MH m1 H := r.cl g3 (by simp)
  obtain ⟨m2, k1, k2, k3, k4⟩ := r7buyA a b r1 v
  obtain ⟨vB, nB, aB, wB, lB, _⟩ := buyN_V a b v
  refine ⟨buyA H a b, m1, m2, g1, k1, ?_⟩
  exact Rel.mut hD ((g3.mo (by simp)).t2 k3 (by simp)) ((o36l.q (k := []) g3 (by decide)).tr k4 (by simp) (by simp)) (g2.rf k3 (by omega) (by simp)) k2 vB (by rw [lB]; exact hl) (by rw [wB]; exact hw) nB (fun i hi => by rw [aB i hi]; exact ⟨rfl, rfl⟩) (nt.F ((k3 8 (by decide)).trans (g3 8 (by decide))) wB)
