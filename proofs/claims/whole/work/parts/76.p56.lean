/-! PURE: weeks by lot: drawn, odds -/
theorem i64_s {k : Nat} (hk : k < 2 ^ 30) : (nI k).toInt64 + 1 = (nI (k + 1)).toInt64 := by
  refine Int64.toInt_inj.mp ?_
  rw [Int64.toInt_add, Int32.toInt_toInt64, Int32.toInt_toInt64, pu_t (by omega), pu_t (by omega)]
  have h1 : (1 : Int64).toInt = 1 := by decide
  rw [h1, Int.bmod_eq_of_le (by omega) (by omega)]
  omega
def ltS (x : Int64) : Int64 := x * 48271 - x * 48271 / 2147483647 * 2147483647
def ltF (x0 : Int64) : Nat → Int64
  | 0 => x0
  | k + 1 => ltS (ltF x0 k)
theorem ltF_s (x0 : Int64) (k : Nat) : ltF x0 (k + 1) = ltF x0 k * 48271 - ltF x0 k * 48271 / 2147483647 * 2147483647 := rfl
/-- weeks by lot -/
def wL (H : HS) (x0 : Int64) (od : Int32) : Nat → Nat × Nat := fun k => (H.R 0, if nI 0 ≤ lg_cmp (ltF x0 (k + 1) - ltF x0 (k + 1) / 100 * 100) od.toInt64 then H.R 2 else 0)
def lot (S : SF) (n : Nat) (x0 : Int64) (od : Int32) (H : HS) : TY := seqT S (wL H x0 od) n (ty0 H)
theorem lot_V {S : SF} {n : Nat} {x0 : Int64} {od : Int32} {H : HS} (v : HV H) : TV (lot S n x0 od H) ∧ HK H (lot S n x0 od H).1 ∧ (lot S n x0 od H).2.2.2.2 = n := by
  have h := seqT_V (S := S) (w := wL H x0 od) (ty0_V v) n
  refine ⟨h.1, h.2.1, ?_⟩
  show (seqT S (wL H x0 od) n (ty0 H)).2.2.2.2 = n
  rw [h.2.2]
  show 0 + n = n
  omega
theorem klot {m0 m : qaM} {H : HS} {S : SF} {n N : Nat} {sd : Int32} {od : Int32} (c : CY m 20 (ty0 H)) (v : HV H) (t : TXc m N S) (sv : SV S) (hN : H.lw < N) (hn : n ≤ 300) (f : qF kL m0 m) :
    ∃ m1, f_X0_livesByLot 20 m sd (nI n) od = some m1 ∧ CY m1 20 (lot S n (sd + nI 1).toInt64 od H) ∧ qF kL m0 m1 := by
  have hr := v.rs
  obtain ⟨x0, hx0⟩ : ∃ x0 : Int64, x0 = (sd + nI 1).toInt64 := ⟨_, rfl⟩
  rw [← hx0]
  obtain ⟨r, h1, h2, h3⟩ := lp_at (f := fun s : qaM × Int64 × Int32 => b_X0_livesByLot_9 20 s.1 (nI n) od s.2.1 s.2.2) (fun j s => s.2 = (ltF x0 j, nI j) ∧ CY s.1 20 (lot S j x0 od H) ∧ qF kL m s.1) (fun r => CY r 20 (lot S n x0 od H) ∧ qF kL m r) n (s := (m, x0, nI 0)) ⟨rfl, c, qF.rf _ _⟩ (by omega) (by
    rintro j ⟨x, k⟩ hj ⟨hk, cy, hf⟩
    have hk2 : k = (ltF x0 j, nI j) := hk
    replace cy : CY x 20 (lot S j x0 od H) := cy
    replace hf : qF kL m x := hf
    subst hk2
    show (∃ s', b_X0_livesByLot_9 20 x (nI n) od (ltF x0 j) (nI j) = some (.inl s') ∧ _) ∨ (∃ q, b_X0_livesByLot_9 20 x (nI n) od (ltF x0 j) (nI j) = some (.inr q) ∧ _)
    have hv := lot_V (S := S) (n := j) (x0 := x0) (od := od) v
    have h0 : x (20 + 5) 0 = nI (H.R 0) := by
      have := cy.1.2.2.1 0 (by omega)
      rw [hv.2.1.2.1] at this
      exact this
    have h2 : x (20 + 5) 2 = nI (H.R 2) := by
      have := cy.1.2.2.1 2 (by omega)
      rw [hv.2.1.2.1] at this
      exact this
    unfold b_X0_livesByLot_9
    rcases Nat.lt_or_ge j n with q | q
    · obtain ⟨w, hw⟩ : ∃ w, w = wL H x0 od j := ⟨_, rfl⟩
      have hw1 : w.1 = H.R 0 := by rw [hw]; rfl
      have hw2 : w.2 ≤ 3 := by
        rw [hw]
        show (if _ then H.R 2 else 0) ≤ 3
        split
        · exact hr.2.2.1
        · omega
      obtain ⟨x2, g1, g2, g3⟩ := kweek (wan := w.1) (how := w.2) cy hv.1 (by omega) (t.kL hf) sv (by rw [hv.2.1.2.2]; exact hN) (by rw [hw1]; exact hr.1) hw2 (by rw [hv.2.2]; omega)
      have g4 : CY x2 20 (lot S (j + 1) x0 od H) := by
        unfold lot
        rw [seqT_s, ← hw]
        exact g2
      refine Or.inl ⟨(x2, ltF x0 (j + 1), nI (j + 1)), ?_, q, rfl, g4, hf.t2 g3 (by simp [kL])⟩
      simp only [li_0, li_1, li_2, li_3, li_4, li_5, li_6, li_7, li_8, li_9, li_10, li_11, li_12, li_13, li_14, li_15, li_16, li_17, li_18, li_19, li_20, li_30, li_31, li_32, li_33, li_40, li_41, li_42, li_43, li_45, li_48, li_56, li_57, li_59, li_60, li_61, li_64, li_91, li_97, li_99, li_100, li_122, li_150, li_160, li_200, li_201, li_255, li_300, li_303, li_304, li_305, li_306, li_312, li_400, li_500, li_999, li_1003, li_3099, li_99999, li_100000, li_1000000, li_65, li_23, li_neg]
      rw [ic_le_f q (by omega), pu_let]
      have hs : ltF x0 j * 48271 - ltF x0 j * 48271 / 2147483647 * 2147483647 = ltF x0 (j + 1) := (ltF_s x0 j).symm
      rw [hs]
      by_cases y : nI 0 ≤ lg_cmp (ltF x0 (j + 1) - ltF x0 (j + 1) / 100 * 100) od.toInt64
      · have e2 : w.2 = H.R 2 := by
          rw [hw]
          exact if_pos y
        rw [if_pos y, h0, h2]
        rw [hw1, e2] at g1
        unfold b_X0_livesByLot_56
        rw [g1]
        ((try simp only [li_0, li_1, li_2, li_3, li_4, li_5, li_6, li_7, li_8, li_9, li_10, li_11, li_12, li_13, li_14, li_15, li_16, li_17, li_18, li_19, li_20, li_30, li_31, li_32, li_33, li_40, li_41, li_42, li_43, li_45, li_48, li_56, li_57, li_59, li_60, li_61, li_64, li_91, li_97, li_99, li_100, li_122, li_150, li_160, li_200, li_201, li_255, li_300, li_303, li_304, li_305, li_306, li_312, li_400, li_500, li_999, li_1003, li_3099, li_99999, li_100000, li_1000000, li_65, li_23, li_neg]); (try simp (disch := omega) only [ic_le_f, ic_le_t, ic_lt_f, ic_lt_t, ic_eq_f, ic_eq_t, ic_im, ic_mi, ic_mm_t, ic_mm_f, ic_mlt, ic_mle, ic_ilem, ic_iltm, ic_mmle_t, ic_mmle_f, pu_add, pu_mul, pu_in, pu_ck, pu_let, pu_cl, pu_cpok, pu_inr, Option.bind_some, ite_true, ite_false, pu_dm, pu_dv, pu_sub, nt_dm, if_true, if_false]))
      · have e2 : w.2 = 0 := by
          rw [hw]
          exact if_neg y
        rw [if_neg y, h0]
        rw [hw1, e2] at g1
        unfold b_X0_livesByLot_56
        rw [g1]
        ((try simp only [li_0, li_1, li_2, li_3, li_4, li_5, li_6, li_7, li_8, li_9, li_10, li_11, li_12, li_13, li_14, li_15, li_16, li_17, li_18, li_19, li_20, li_30, li_31, li_32, li_33, li_40, li_41, li_42, li_43, li_45, li_48, li_56, li_57, li_59, li_60, li_61, li_64, li_91, li_97, li_99, li_100, li_122, li_150, li_160, li_200, li_201, li_255, li_300, li_303, li_304, li_305, li_306, li_312, li_400, li_500, li_999, li_1003, li_3099, li_99999, li_100000, li_1000000, li_65, li_23, li_neg]); (try simp (disch := omega) only [ic_le_f, ic_le_t, ic_lt_f, ic_lt_t, ic_eq_f, ic_eq_t, ic_im, ic_mi, ic_mm_t, ic_mm_f, ic_mlt, ic_mle, ic_ilem, ic_iltm, ic_mmle_t, ic_mmle_f, pu_add, pu_mul, pu_in, pu_ck, pu_let, pu_cl, pu_cpok, pu_inr, Option.bind_some, ite_true, ite_false, pu_dm, pu_dv, pu_sub, nt_dm, if_true, if_false]))
    · have : j = n := by omega
      subst this
      refine Or.inr ⟨x, ?_, cy, hf⟩
      rw [ic_le_t (by omega) (by omega)]
      rfl)
  refine ⟨r, ?_, h2, f.t2 h3 (fun _ z => z)⟩
  unfold f_X0_livesByLot
  simp only [li_0, li_1, li_2, li_3, li_4, li_5, li_6, li_7, li_8, li_9, li_10, li_11, li_12, li_13, li_14, li_15, li_16, li_17, li_18, li_19, li_20, li_30, li_31, li_32, li_33, li_40, li_41, li_42, li_43, li_45, li_48, li_56, li_57, li_59, li_60, li_61, li_64, li_91, li_97, li_99, li_100, li_122, li_150, li_160, li_200, li_201, li_255, li_300, li_303, li_304, li_305, li_306, li_312, li_400, li_500, li_999, li_1003, li_3099, li_99999, li_100000, li_1000000, li_65, li_23, li_neg]
  rw [pu_let, lp_X0_livesByLot_9, ← hx0, h1]
theorem r7lot {m0 m : qaM} {H : HS} {S : SF} {n N : Nat} {sd od : Int32} (c : MH m H) (v : HV H) (t : TXr m N S) (sv : SV S) (hN : H.lw < N) (hn : n ≤ 300) (f : qF rL m0 m) (o : o36l oL m0 m) :
    ∃ m2 go, f_X7_goesBroken m sd (nI n) od = some m2 ∧ MH m2 H ∧ RTY m2 (lot S n (sd.toInt64 + 1) od H) go ∧ LR m2 H.n (lot S n (sd.toInt64 + 1) od H).1.A ∧ qF rL m0 m2 ∧ o36l oL m0 m2 := by
  have hr := v.rs
  obtain ⟨x0, hx0⟩ : ∃ x0 : Int64, x0 = sd.toInt64 + 1 := ⟨_, rfl⟩
  rw [← hx0]
  obtain ⟨m1, a1, a2⟩ := r7rw0 (S := S) (w := wL H x0 od) c
  have hwl : ∀ j, (wL H x0 od j).1 ≤ 8 ∧ (wL H x0 od j).2 ≤ 3 := fun j => by
    refine ⟨hr.1, ?_⟩
    show (if _ then H.R 2 else 0) ≤ 3
    split
    · exact hr.2.2.1
    · omega
  obtain ⟨r, h1, h2⟩ := lp_at (f := fun s : qaM × Int64 × Int32 => b_X7_goesBroken_13 s.1 (nI n) od s.2.1 s.2.2) (fun j s => s.2 = (ltF x0 j, nI j) ∧ RW s.1 m S (wL H x0 od) H j) (fun r => RE r m S (wL H x0 od) H n) n (s := (m1, x0, nI 0)) ⟨rfl, a2⟩ (by omega) (by
    rintro j ⟨x, k⟩ hj ⟨hk, hx⟩
    have hk2 : k = (ltF x0 j, nI j) := hk
    replace hx : RW x m S (wL H x0 od) H j := hx
    subst hk2
    show (∃ s', b_X7_goesBroken_13 x (nI n) od (ltF x0 j) (nI j) = some (.inl s') ∧ _) ∨ (∃ q, b_X7_goesBroken_13 x (nI n) od (ltF x0 j) (nI j) = some (.inr q) ∧ _)
    have h41 : x 41 = m 41 := hx.2.2.2.1 41 (by decide)
    have h410 : x 41 0 = nI (H.R 0) := by
      rw [h41]
      exact c.2.2.1 0 (by omega)
    have h412 : x 41 2 = nI (H.R 2) := by
      rw [h41]
      exact c.2.2.1 2 (by omega)
    unfold b_X7_goesBroken_13
    rcases Nat.lt_or_ge j n with q | q
    · obtain ⟨x2, g1, g2⟩ := r7rwS hx v t sv hN (by omega) (hwl j).1 (hwl j).2
      refine Or.inl ⟨(x2, ltF x0 (j + 1), nI (j + 1)), ?_, q, rfl, g2⟩
      have hw1 : (wL H x0 od j).1 = H.R 0 := rfl
      rw [hw1] at g1
      simp only [li_0, li_1, li_2, li_3, li_4, li_5, li_6, li_7, li_8, li_9, li_10, li_11, li_12, li_13, li_14, li_15, li_16, li_17, li_18, li_19, li_20, li_30, li_31, li_32, li_33, li_40, li_41, li_42, li_43, li_45, li_48, li_56, li_57, li_59, li_60, li_61, li_64, li_91, li_97, li_99, li_100, li_122, li_150, li_160, li_200, li_201, li_255, li_300, li_303, li_304, li_305, li_306, li_312, li_400, li_500, li_999, li_1003, li_3099, li_99999, li_100000, li_1000000, li_65, li_23, li_neg]
      rw [ic_le_f q (by omega), pu_let]
      have hs : ltF x0 j * 48271 - ltF x0 j * 48271 / 2147483647 * 2147483647 = ltF x0 (j + 1) := (ltF_s x0 j).symm
      rw [hs]
      by_cases y : nI 0 ≤ lg_cmp (ltF x0 (j + 1) - ltF x0 (j + 1) / 100 * 100) od.toInt64
      · have e2 : (wL H x0 od j).2 = H.R 2 := if_pos y
        rw [if_pos y, h410, h412]
        rw [e2] at g1
        unfold b_X7_goesBroken_62
        rw [g1]
        ((try simp only [li_0, li_1, li_2, li_3, li_4, li_5, li_6, li_7, li_8, li_9, li_10, li_11, li_12, li_13, li_14, li_15, li_16, li_17, li_18, li_19, li_20, li_30, li_31, li_32, li_33, li_40, li_41, li_42, li_43, li_45, li_48, li_56, li_57, li_59, li_60, li_61, li_64, li_91, li_97, li_99, li_100, li_122, li_150, li_160, li_200, li_201, li_255, li_300, li_303, li_304, li_305, li_306, li_312, li_400, li_500, li_999, li_1003, li_3099, li_99999, li_100000, li_1000000, li_65, li_23, li_neg]); (try simp (disch := omega) only [ic_le_f, ic_le_t, ic_lt_f, ic_lt_t, ic_eq_f, ic_eq_t, ic_im, ic_mi, ic_mm_t, ic_mm_f, ic_mlt, ic_mle, ic_ilem, ic_iltm, ic_mmle_t, ic_mmle_f, pu_add, pu_mul, pu_in, pu_ck, pu_let, pu_cl, pu_cpok, pu_inr, Option.bind_some, ite_true, ite_false, pu_dm, pu_dv, pu_sub, nt_dm, if_true, if_false]))
      · have e2 : (wL H x0 od j).2 = 0 := if_neg y
        rw [if_neg y, h410]
        rw [e2] at g1
        unfold b_X7_goesBroken_62
        rw [g1]
        ((try simp only [li_0, li_1, li_2, li_3, li_4, li_5, li_6, li_7, li_8, li_9, li_10, li_11, li_12, li_13, li_14, li_15, li_16, li_17, li_18, li_19, li_20, li_30, li_31, li_32, li_33, li_40, li_41, li_42, li_43, li_45, li_48, li_56, li_57, li_59, li_60, li_61, li_64, li_91, li_97, li_99, li_100, li_122, li_150, li_160, li_200, li_201, li_255, li_300, li_303, li_304, li_305, li_306, li_312, li_400, li_500, li_999, li_1003, li_3099, li_99999, li_100000, li_1000000, li_65, li_23, li_neg]); (try simp (disch := omega) only [ic_le_f, ic_le_t, ic_lt_f, ic_lt_t, ic_eq_f, ic_eq_t, ic_im, ic_mi, ic_mm_t, ic_mm_f, ic_mlt, ic_mle, ic_ilem, ic_iltm, ic_mmle_t, ic_mmle_f, pu_add, pu_mul, pu_in, pu_ck, pu_let, pu_cl, pu_cpok, pu_inr, Option.bind_some, ite_true, ite_false, pu_dm, pu_dv, pu_sub, nt_dm, if_true, if_false]))
    · have : j = n := by omega
      subst this
      obtain ⟨x2, g1, g2⟩ := r7rwE hx v c
      refine Or.inr ⟨x2, ?_, g2⟩
      rw [ic_le_t (by omega) (by omega)]
      unfold b_X7_goesBroken_71
      rw [g1]
      rfl)
  obtain ⟨b2, ⟨go, b3, _⟩, b4, b5, b6⟩ := h2
  refine ⟨r, go, ?_, b2, b3, b4, f.t2 b5 (by simp [rL]), o.tr b6 (fun _ z => z) (fun _ z => z)⟩
  unfold f_X7_goesBroken
  rw [pu_let, ← hx0, a1, Option.bind_some]
  simp only [li_0, li_1, li_2, li_3, li_4, li_5, li_6, li_7, li_8, li_9, li_10, li_11, li_12, li_13, li_14, li_15, li_16, li_17, li_18, li_19, li_20, li_30, li_31, li_32, li_33, li_40, li_41, li_42, li_43, li_45, li_48, li_56, li_57, li_59, li_60, li_61, li_64, li_91, li_97, li_99, li_100, li_122, li_150, li_160, li_200, li_201, li_255, li_300, li_303, li_304, li_305, li_306, li_312, li_400, li_500, li_999, li_1003, li_3099, li_99999, li_100000, li_1000000, li_65, li_23, li_neg]
  rw [lp_X7_goesBroken_13, h1]
theorem lot_e {k : Nat} (hk : k < 2 ^ 30) : (nI k + nI 1).toInt64 = (nI k).toInt64 + 1 := by
  rw [pu_add, i64_s hk]
/-- all worn, together -/
def swF (A : Nat → AL) : Nat → Int32
  | 0 => nI 0
  | n + 1 => swF A n + nI (A n 2)
theorem kwornAll {m : qaM} {X : TY} (c : CY m 20 X) (v : TV X) : f_X1_wornOfAll 21 m = some (swF X.1.A X.1.n) := by
  have n8 := v.1.n8
  have h21 : m 21 0 = nI X.1.n := c.1.1.1
  obtain ⟨r, h1, h2⟩ := lp_at (f := fun s : Int32 × Int32 => b_X1_wornOfAll_4 21 m s.1 s.2) (fun j s => s = (swF X.1.A j, nI j)) (fun r => r = swF X.1.A X.1.n) X.1.n (s := (nI 0, nI 0)) rfl (by omega) (by
    rintro j s hj rfl
    unfold b_X1_wornOfAll_4
    rw [h21]
    rcases Nat.lt_or_ge j X.1.n with q | q
    · refine Or.inl ⟨(swF X.1.A (j + 1), nI (j + 1)), ?_, q, rfl⟩
      have hf := cfact (h := 20) (i := j) (k := 2) c.1 (by omega) (by omega) (by omega)
      ((try simp only [li_0, li_1, li_2, li_3, li_4, li_5, li_6, li_7, li_8, li_9, li_10, li_11, li_12, li_13, li_14, li_15, li_16, li_17, li_18, li_19, li_20, li_30, li_31, li_32, li_33, li_40, li_41, li_42, li_43, li_45, li_48, li_56, li_57, li_59, li_60, li_61, li_64, li_91, li_97, li_99, li_100, li_122, li_150, li_160, li_200, li_201, li_255, li_300, li_303, li_304, li_305, li_306, li_312, li_400, li_500, li_999, li_1003, li_3099, li_99999, li_100000, li_1000000, li_65, li_23, li_neg]); (try simp (disch := omega) only [ic_le_f, ic_le_t, ic_lt_f, ic_lt_t, ic_eq_f, ic_eq_t, ic_im, ic_mi, ic_mm_t, ic_mm_f, ic_mlt, ic_mle, ic_ilem, ic_iltm, ic_mmle_t, ic_mmle_f, pu_add, pu_mul, pu_in, pu_ck, pu_let, pu_cl, pu_cpok, pu_inr, Option.bind_some, ite_true, ite_false, pu_dm, pu_dv, pu_sub, nt_dm, if_true, if_false]))
      rw [hf]
      ((try simp only [li_0, li_1, li_2, li_3, li_4, li_5, li_6, li_7, li_8, li_9, li_10, li_11, li_12, li_13, li_14, li_15, li_16, li_17, li_18, li_19, li_20, li_30, li_31, li_32, li_33, li_40, li_41, li_42, li_43, li_45, li_48, li_56, li_57, li_59, li_60, li_61, li_64, li_91, li_97, li_99, li_100, li_122, li_150, li_160, li_200, li_201, li_255, li_300, li_303, li_304, li_305, li_306, li_312, li_400, li_500, li_999, li_1003, li_3099, li_99999, li_100000, li_1000000, li_65, li_23, li_neg]); (try simp (disch := omega) only [ic_le_f, ic_le_t, ic_lt_f, ic_lt_t, ic_eq_f, ic_eq_t, ic_im, ic_mi, ic_mm_t, ic_mm_f, ic_mlt, ic_mle, ic_ilem, ic_iltm, ic_mmle_t, ic_mmle_f, pu_add, pu_mul, pu_in, pu_ck, pu_let, pu_cl, pu_cpok, pu_inr, Option.bind_some, ite_true, ite_false, pu_dm, pu_dv, pu_sub, nt_dm, if_true, if_false]))
      rfl
    · have : j = X.1.n := by omega
      subst this
      refine Or.inr ⟨_, ?_, rfl⟩
      ((try simp only [li_0, li_1, li_2, li_3, li_4, li_5, li_6, li_7, li_8, li_9, li_10, li_11, li_12, li_13, li_14, li_15, li_16, li_17, li_18, li_19, li_20, li_30, li_31, li_32, li_33, li_40, li_41, li_42, li_43, li_45, li_48, li_56, li_57, li_59, li_60, li_61, li_64, li_91, li_97, li_99, li_100, li_122, li_150, li_160, li_200, li_201, li_255, li_300, li_303, li_304, li_305, li_306, li_312, li_400, li_500, li_999, li_1003, li_3099, li_99999, li_100000, li_1000000, li_65, li_23, li_neg]); (try simp (disch := omega) only [ic_le_f, ic_le_t, ic_lt_f, ic_lt_t, ic_eq_f, ic_eq_t, ic_im, ic_mi, ic_mm_t, ic_mm_f, ic_mlt, ic_mle, ic_ilem, ic_iltm, ic_mmle_t, ic_mmle_f, pu_add, pu_mul, pu_in, pu_ck, pu_let, pu_cl, pu_cpok, pu_inr, Option.bind_some, ite_true, ite_false, pu_dm, pu_dv, pu_sub, nt_dm, if_true, if_false])))
  unfold f_X1_wornOfAll
  simp only [li_0, li_1, li_2, li_3, li_4, li_5, li_6, li_7, li_8, li_9, li_10, li_11, li_12, li_13, li_14, li_15, li_16, li_17, li_18, li_19, li_20, li_30, li_31, li_32, li_33, li_40, li_41, li_42, li_43, li_45, li_48, li_56, li_57, li_59, li_60, li_61, li_64, li_91, li_97, li_99, li_100, li_122, li_150, li_160, li_200, li_201, li_255, li_300, li_303, li_304, li_305, li_306, li_312, li_400, li_500, li_999, li_1003, li_3099, li_99999, li_100000, li_1000000, li_65, li_23, li_neg]
  rw [lp_X1_wornOfAll_4, h1, h2]
theorem r7wornAll {m : qaM} {n : Nat} {A : Nat → AL} (h0 : m 36 0 = nI n) (h8 : n ≤ 8) (hl : LR m n A) : f_X7_wornAll m = some (swF A n) := by
  obtain ⟨r, h1, h2⟩ := lp_at (f := fun s : Int32 × Int32 => b_X7_wornAll_4 m s.1 s.2) (fun j s => s = (swF A j, nI j)) (fun r => r = swF A n) n (s := (nI 0, nI 0)) rfl (by omega) (by
    rintro j s hj rfl
    unfold b_X7_wornAll_4
    rw [h0]
    rcases Nat.lt_or_ge j n with q | q
    · refine Or.inl ⟨(swF A (j + 1), nI (j + 1)), ?_, q, rfl⟩
      have e0 : m 59 (6 * j) = nI (A j 2) := hl j 0 q (by omega) (by omega)
      ((try simp only [li_0, li_1, li_2, li_3, li_4, li_5, li_6, li_7, li_8, li_9, li_10, li_11, li_12, li_13, li_14, li_15, li_16, li_17, li_18, li_19, li_20, li_30, li_31, li_32, li_33, li_40, li_41, li_42, li_43, li_45, li_48, li_56, li_57, li_59, li_60, li_61, li_64, li_91, li_97, li_99, li_100, li_122, li_150, li_160, li_200, li_201, li_255, li_300, li_303, li_304, li_305, li_306, li_312, li_400, li_500, li_999, li_1003, li_3099, li_99999, li_100000, li_1000000, li_65, li_23, li_neg]); (try simp (disch := omega) only [ic_le_f, ic_le_t, ic_lt_f, ic_lt_t, ic_eq_f, ic_eq_t, ic_im, ic_mi, ic_mm_t, ic_mm_f, ic_mlt, ic_mle, ic_ilem, ic_iltm, ic_mmle_t, ic_mmle_f, pu_add, pu_mul, pu_in, pu_ck, pu_let, pu_cl, pu_cpok, pu_inr, Option.bind_some, ite_true, ite_false, pu_dm, pu_dv, pu_sub, nt_dm, if_true, if_false]))
      rw [e0]
      rfl
    · have : j = n := by omega
      subst this
      refine Or.inr ⟨_, ?_, rfl⟩
      ((try simp only [li_0, li_1, li_2, li_3, li_4, li_5, li_6, li_7, li_8, li_9, li_10, li_11, li_12, li_13, li_14, li_15, li_16, li_17, li_18, li_19, li_20, li_30, li_31, li_32, li_33, li_40, li_41, li_42, li_43, li_45, li_48, li_56, li_57, li_59, li_60, li_61, li_64, li_91, li_97, li_99, li_100, li_122, li_150, li_160, li_200, li_201, li_255, li_300, li_303, li_304, li_305, li_306, li_312, li_400, li_500, li_999, li_1003, li_3099, li_99999, li_100000, li_1000000, li_65, li_23, li_neg]); (try simp (disch := omega) only [ic_le_f, ic_le_t, ic_lt_f, ic_lt_t, ic_eq_f, ic_eq_t, ic_im, ic_mi, ic_mm_t, ic_mm_f, ic_mlt, ic_mle, ic_ilem, ic_iltm, ic_mmle_t, ic_mmle_f, pu_add, pu_mul, pu_in, pu_ck, pu_let, pu_cl, pu_cpok, pu_inr, Option.bind_some, ite_true, ite_false, pu_dm, pu_dv, pu_sub, nt_dm, if_true, if_false])))
  unfold f_X7_wornAll
  simp only [li_0, li_1, li_2, li_3, li_4, li_5, li_6, li_7, li_8, li_9, li_10, li_11, li_12, li_13, li_14, li_15, li_16, li_17, li_18, li_19, li_20, li_30, li_31, li_32, li_33, li_40, li_41, li_42, li_43, li_45, li_48, li_56, li_57, li_59, li_60, li_61, li_64, li_91, li_97, li_99, li_100, li_122, li_150, li_160, li_200, li_201, li_255, li_300, li_303, li_304, li_305, li_306, li_312, li_400, li_500, li_999, li_1003, li_3099, li_99999, li_100000, li_1000000, li_65, li_23, li_neg]
  rw [lp_X7_wornAll_4, h1, h2]
theorem BX.in7 {m : qaM} {b c : Nat} {x : Int32} (h : BX b c x) : f_X7_in m x (nI 0) (nI b) = some (nI 0) := by
  unfold f_X7_in
  simp only [li_0, li_1, li_2, li_3, li_4, li_5, li_6, li_7, li_8, li_9, li_10, li_11, li_12, li_13, li_14, li_15, li_16, li_17, li_18, li_19, li_20, li_30, li_31, li_32, li_33, li_40, li_41, li_42, li_43, li_45, li_48, li_56, li_57, li_59, li_60, li_61, li_64, li_91, li_97, li_99, li_100, li_122, li_150, li_160, li_200, li_201, li_255, li_300, li_303, li_304, li_305, li_306, li_312, li_400, li_500, li_999, li_1003, li_3099, li_99999, li_100000, li_1000000, li_65, li_23, li_neg]
  rcases h with ⟨h1, h2, h3, h4, h5, h6⟩ | ⟨h1, h2, h3, h4, h5, h6⟩
  · simp only [h1, if_true]
  · simp only [h1, h3, if_true, if_false]
theorem BX.wk6 {m : qaM} {x : Int32} (h : BX 200 201 x) : f_X6_isWeeks m x = some (nI 0) := by
  unfold f_X6_isWeeks
  simp only [li_0, li_1, li_2, li_3, li_4, li_5, li_6, li_7, li_8, li_9, li_10, li_11, li_12, li_13, li_14, li_15, li_16, li_17, li_18, li_19, li_20, li_30, li_31, li_32, li_33, li_40, li_41, li_42, li_43, li_45, li_48, li_56, li_57, li_59, li_60, li_61, li_64, li_91, li_97, li_99, li_100, li_122, li_150, li_160, li_200, li_201, li_255, li_300, li_303, li_304, li_305, li_306, li_312, li_400, li_500, li_999, li_1003, li_3099, li_99999, li_100000, li_1000000, li_65, li_23, li_neg]
  rcases h with ⟨h1, h2, h3, h4, h5, h6⟩ | ⟨h1, h2, h3, h4, h5, h6⟩
  · simp only [h1, if_true]
  · simp only [h1, h3, if_true, if_false]
theorem BX.wk7 {m : qaM} {x : Int32} (h : BX 200 201 x) : f_X7_areWeeks m x = some (nI 0) := by
  unfold f_X7_areWeeks
  simp only [li_0, li_1, li_2, li_3, li_4, li_5, li_6, li_7, li_8, li_9, li_10, li_11, li_12, li_13, li_14, li_15, li_16, li_17, li_18, li_19, li_20, li_30, li_31, li_32, li_33, li_40, li_41, li_42, li_43, li_45, li_48, li_56, li_57, li_59, li_60, li_61, li_64, li_91, li_97, li_99, li_100, li_122, li_150, li_160, li_200, li_201, li_255, li_300, li_303, li_304, li_305, li_306, li_312, li_400, li_500, li_999, li_1003, li_3099, li_99999, li_100000, li_1000000, li_65, li_23, li_neg]
  rw [h.in7, Option.bind_some, qa_bl0, pu_ck]
theorem BX.sd6 {m : qaM} {x : Int32} (h : BX 99999 100000 x) : f_X6_isSeed m x = some (nI 0) := by
  unfold f_X6_isSeed
  simp only [li_0, li_1, li_2, li_3, li_4, li_5, li_6, li_7, li_8, li_9, li_10, li_11, li_12, li_13, li_14, li_15, li_16, li_17, li_18, li_19, li_20, li_30, li_31, li_32, li_33, li_40, li_41, li_42, li_43, li_45, li_48, li_56, li_57, li_59, li_60, li_61, li_64, li_91, li_97, li_99, li_100, li_122, li_150, li_160, li_200, li_201, li_255, li_300, li_303, li_304, li_305, li_306, li_312, li_400, li_500, li_999, li_1003, li_3099, li_99999, li_100000, li_1000000, li_65, li_23, li_neg]
  rcases h with ⟨h1, h2, h3, h4, h5, h6⟩ | ⟨h1, h2, h3, h4, h5, h6⟩
  · simp only [h1, if_true]
  · simp only [h1, h3, if_true, if_false]
theorem in7_ok {m : qaM} {k b : Nat} (h : k ≤ b) (hb : b < 2 ^ 31) : f_X7_in m (nI k) (nI 0) (nI b) = some (nI 1) := by rw [r7in (by omega) (by omega) hb, if_pos ⟨Nat.zero_le _, h⟩]
theorem wk6_ok {m : qaM} {k : Nat} (h : k ≤ 200) : f_X6_isWeeks m (nI k) = some (nI 1) := by ((try simp only [f_X6_isWeeks, li_0, li_1, li_2, li_3, li_4, li_5, li_6, li_7, li_8, li_9, li_10, li_11, li_12, li_13, li_14, li_15, li_16, li_17, li_18, li_19, li_20, li_30, li_31, li_32, li_33, li_40, li_41, li_42, li_43, li_45, li_48, li_56, li_57, li_59, li_60, li_61, li_64, li_91, li_97, li_99, li_100, li_122, li_150, li_160, li_200, li_201, li_255, li_300, li_303, li_304, li_305, li_306, li_312, li_400, li_500, li_999, li_1003, li_3099, li_99999, li_100000, li_1000000, li_65, li_23, li_neg]); (try simp (disch := omega) only [f_X6_isWeeks, ic_le_f, ic_le_t, ic_lt_f, ic_lt_t, ic_eq_f, ic_eq_t, ic_im, ic_mi, ic_mm_t, ic_mm_f, ic_mlt, ic_mle, ic_ilem, ic_iltm, ic_mmle_t, ic_mmle_f, pu_add, pu_mul, pu_in, pu_ck, pu_let, pu_cl, pu_cpok, pu_inr, Option.bind_some, ite_true, ite_false, pu_dm, pu_dv, pu_sub, nt_dm, if_true, if_false]))
theorem sd6_ok {m : qaM} {k : Nat} (h : k ≤ 99999) : f_X6_isSeed m (nI k) = some (nI 1) := by ((try simp only [f_X6_isSeed, li_0, li_1, li_2, li_3, li_4, li_5, li_6, li_7, li_8, li_9, li_10, li_11, li_12, li_13, li_14, li_15, li_16, li_17, li_18, li_19, li_20, li_30, li_31, li_32, li_33, li_40, li_41, li_42, li_43, li_45, li_48, li_56, li_57, li_59, li_60, li_61, li_64, li_91, li_97, li_99, li_100, li_122, li_150, li_160, li_200, li_201, li_255, li_300, li_303, li_304, li_305, li_306, li_312, li_400, li_500, li_999, li_1003, li_3099, li_99999, li_100000, li_1000000, li_65, li_23, li_neg]); (try simp (disch := omega) only [f_X6_isSeed, ic_le_f, ic_le_t, ic_lt_f, ic_lt_t, ic_eq_f, ic_eq_t, ic_im, ic_mi, ic_mm_t, ic_mm_f, ic_mlt, ic_mle, ic_ilem, ic_iltm, ic_mmle_t, ic_mmle_f, pu_add, pu_mul, pu_in, pu_ck, pu_let, pu_cl, pu_cpok, pu_inr, Option.bind_some, ite_true, ite_false, pu_dm, pu_dv, pu_sub, nt_dm, if_true, if_false]))
theorem n10 : ¬ nI 1 = nI 0 := by decide
theorem qp_drawn : qaP_drawn Rel := by
  intro m a b d h
  obtain ⟨H, N, S, hD⟩ := h
  have ⟨c, r, v, hl, hw, t, _, _, _, nt⟩ := hD
  have n8 := v.n8
  rcases upTo 99999 100000 rfl (by omega) a with ⟨s, hs, rfl⟩ | hx
  rotate_left
  · refine ⟨nM 2, m, m, ?_, ?_, Rel.mk hD⟩
    · unfold f_X6_drawn
      simp only [li_0, li_1, li_2, li_3, li_4, li_5, li_6, li_7, li_8, li_9, li_10, li_11, li_12, li_13, li_14, li_15, li_16, li_17, li_18, li_19, li_20, li_30, li_31, li_32, li_33, li_40, li_41, li_42, li_43, li_45, li_48, li_56, li_57, li_59, li_60, li_61, li_64, li_91, li_97, li_99, li_100, li_122, li_150, li_160, li_200, li_201, li_255, li_300, li_303, li_304, li_305, li_306, li_312, li_400, li_500, li_999, li_1003, li_3099, li_99999, li_100000, li_1000000, li_65, li_23, li_neg]
      rw [hx.sd6, Option.bind_some, if_pos rfl]
    · unfold f_X7_drawn
      simp only [li_0, li_1, li_2, li_3, li_4, li_5, li_6, li_7, li_8, li_9, li_10, li_11, li_12, li_13, li_14, li_15, li_16, li_17, li_18, li_19, li_20, li_30, li_31, li_32, li_33, li_40, li_41, li_42, li_43, li_45, li_48, li_56, li_57, li_59, li_60, li_61, li_64, li_91, li_97, li_99, li_100, li_122, li_150, li_160, li_200, li_201, li_255, li_300, li_303, li_304, li_305, li_306, li_312, li_400, li_500, li_999, li_1003, li_3099, li_99999, li_100000, li_1000000, li_65, li_23, li_neg]
      rw [hx.in7, Option.bind_some, if_pos rfl]
  rcases upTo 200 201 rfl (by omega) b with ⟨n, hn, rfl⟩ | hx
  rotate_left
  · refine ⟨nM 2, m, m, ?_, ?_, Rel.mk hD⟩
    · unfold f_X6_drawn
      simp only [li_0, li_1, li_2, li_3, li_4, li_5, li_6, li_7, li_8, li_9, li_10, li_11, li_12, li_13, li_14, li_15, li_16, li_17, li_18, li_19, li_20, li_30, li_31, li_32, li_33, li_40, li_41, li_42, li_43, li_45, li_48, li_56, li_57, li_59, li_60, li_61, li_64, li_91, li_97, li_99, li_100, li_122, li_150, li_160, li_200, li_201, li_255, li_300, li_303, li_304, li_305, li_306, li_312, li_400, li_500, li_999, li_1003, li_3099, li_99999, li_100000, li_1000000, li_65, li_23, li_neg]
      rw [sd6_ok hs, Option.bind_some, if_neg n10, hx.wk6, Option.bind_some, if_pos rfl]
    · unfold f_X7_drawn
      simp only [li_0, li_1, li_2, li_3, li_4, li_5, li_6, li_7, li_8, li_9, li_10, li_11, li_12, li_13, li_14, li_15, li_16, li_17, li_18, li_19, li_20, li_30, li_31, li_32, li_33, li_40, li_41, li_42, li_43, li_45, li_48, li_56, li_57, li_59, li_60, li_61, li_64, li_91, li_97, li_99, li_100, li_122, li_150, li_160, li_200, li_201, li_255, li_300, li_303, li_304, li_305, li_306, li_312, li_400, li_500, li_999, li_1003, li_3099, li_99999, li_100000, li_1000000, li_65, li_23, li_neg]
      rw [in7_ok hs (by omega), Option.bind_some, if_neg n10, hx.wk7, Option.bind_some, if_pos rfl]
  rcases anyI d with q | ⟨z, hz, rfl⟩
  · rw [li_0] at q
    have q2 : (d < nI 0) = True := eq_true q
    refine ⟨nM 2, m, m, ?_, ?_, Rel.mk hD⟩
    · unfold f_X6_drawn
      simp only [li_0, li_1, li_2, li_3, li_4, li_5, li_6, li_7, li_8, li_9, li_10, li_11, li_12, li_13, li_14, li_15, li_16, li_17, li_18, li_19, li_20, li_30, li_31, li_32, li_33, li_40, li_41, li_42, li_43, li_45, li_48, li_56, li_57, li_59, li_60, li_61, li_64, li_91, li_97, li_99, li_100, li_122, li_150, li_160, li_200, li_201, li_255, li_300, li_303, li_304, li_305, li_306, li_312, li_400, li_500, li_999, li_1003, li_3099, li_99999, li_100000, li_1000000, li_65, li_23, li_neg]
      rw [sd6_ok hs, Option.bind_some, if_neg n10, wk6_ok hn, Option.bind_some, if_neg n10, if_pos q]
    · unfold f_X7_drawn
      simp only [li_0, li_1, li_2, li_3, li_4, li_5, li_6, li_7, li_8, li_9, li_10, li_11, li_12, li_13, li_14, li_15, li_16, li_17, li_18, li_19, li_20, li_30, li_31, li_32, li_33, li_40, li_41, li_42, li_43, li_45, li_48, li_56, li_57, li_59, li_60, li_61, li_64, li_91, li_97, li_99, li_100, li_122, li_150, li_160, li_200, li_201, li_255, li_300, li_303, li_304, li_305, li_306, li_312, li_400, li_500, li_999, li_1003, li_3099, li_99999, li_100000, li_1000000, li_65, li_23, li_neg]
      rw [in7_ok hs (by omega), Option.bind_some, if_neg n10, r7areWeeks hn, Option.bind_some, if_neg n10, r7in_n (by rw [li_0]; exact q) (by omega), Option.bind_some, if_pos rfl]
  obtain ⟨k, hk⟩ : ∃ k, k = z % 10 := ⟨_, rfl⟩
  obtain ⟨od, hod⟩ : ∃ od, od = z / 10 := ⟨_, rfl⟩
  by_cases hgood : od ≤ 100 ∧ k ≤ 3
  rotate_left
  · refine ⟨nM 2, m, m, ?_, ?_, Rel.mk hD⟩
    · rcases Nat.lt_or_ge 100 od with y | y
      · ((try simp only [f_X6_drawn, f_X6_isSeed, f_X6_isWeeks, li_0, li_1, li_2, li_3, li_4, li_5, li_6, li_7, li_8, li_9, li_10, li_11, li_12, li_13, li_14, li_15, li_16, li_17, li_18, li_19, li_20, li_30, li_31, li_32, li_33, li_40, li_41, li_42, li_43, li_45, li_48, li_56, li_57, li_59, li_60, li_61, li_64, li_91, li_97, li_99, li_100, li_122, li_150, li_160, li_200, li_201, li_255, li_300, li_303, li_304, li_305, li_306, li_312, li_400, li_500, li_999, li_1003, li_3099, li_99999, li_100000, li_1000000, li_65, li_23, li_neg]); (try simp (disch := omega) only [f_X6_drawn, f_X6_isSeed, f_X6_isWeeks, ic_le_f, ic_le_t, ic_lt_f, ic_lt_t, ic_eq_f, ic_eq_t, ic_im, ic_mi, ic_mm_t, ic_mm_f, ic_mlt, ic_mle, ic_ilem, ic_iltm, ic_mmle_t, ic_mmle_f, pu_add, pu_mul, pu_in, pu_ck, pu_let, pu_cl, pu_cpok, pu_inr, Option.bind_some, ite_true, ite_false, pu_dm, pu_dv, pu_sub, nt_dm, if_true, if_false]))
      · ((try simp only [f_X6_drawn, f_X6_isSeed, f_X6_isWeeks, li_0, li_1, li_2, li_3, li_4, li_5, li_6, li_7, li_8, li_9, li_10, li_11, li_12, li_13, li_14, li_15, li_16, li_17, li_18, li_19, li_20, li_30, li_31, li_32, li_33, li_40, li_41, li_42, li_43, li_45, li_48, li_56, li_57, li_59, li_60, li_61, li_64, li_91, li_97, li_99, li_100, li_122, li_150, li_160, li_200, li_201, li_255, li_300, li_303, li_304, li_305, li_306, li_312, li_400, li_500, li_999, li_1003, li_3099, li_99999, li_100000, li_1000000, li_65, li_23, li_neg]); (try simp (disch := omega) only [f_X6_drawn, f_X6_isSeed, f_X6_isWeeks, ic_le_f, ic_le_t, ic_lt_f, ic_lt_t, ic_eq_f, ic_eq_t, ic_im, ic_mi, ic_mm_t, ic_mm_f, ic_mlt, ic_mle, ic_ilem, ic_iltm, ic_mmle_t, ic_mmle_f, pu_add, pu_mul, pu_in, pu_ck, pu_let, pu_cl, pu_cpok, pu_inr, Option.bind_some, ite_true, ite_false, pu_dm, pu_dv, pu_sub, nt_dm, if_true, if_false]))
    · rcases Nat.lt_or_ge 1003 z with y | y
      · ((try simp only [f_X7_drawn, f_X7_in, f_X7_areWeeks, qa_bl1, li_0, li_1, li_2, li_3, li_4, li_5, li_6, li_7, li_8, li_9, li_10, li_11, li_12, li_13, li_14, li_15, li_16, li_17, li_18, li_19, li_20, li_30, li_31, li_32, li_33, li_40, li_41, li_42, li_43, li_45, li_48, li_56, li_57, li_59, li_60, li_61, li_64, li_91, li_97, li_99, li_100, li_122, li_150, li_160, li_200, li_201, li_255, li_300, li_303, li_304, li_305, li_306, li_312, li_400, li_500, li_999, li_1003, li_3099, li_99999, li_100000, li_1000000, li_65, li_23, li_neg]); (try simp (disch := omega) only [f_X7_drawn, f_X7_in, f_X7_areWeeks, qa_bl1, ic_le_f, ic_le_t, ic_lt_f, ic_lt_t, ic_eq_f, ic_eq_t, ic_im, ic_mi, ic_mm_t, ic_mm_f, ic_mlt, ic_mle, ic_ilem, ic_iltm, ic_mmle_t, ic_mmle_f, pu_add, pu_mul, pu_in, pu_ck, pu_let, pu_cl, pu_cpok, pu_inr, Option.bind_some, ite_true, ite_false, pu_dm, pu_dv, pu_sub, nt_dm, if_true, if_false]))
      · ((try simp only [f_X7_drawn, f_X7_in, f_X7_areWeeks, qa_bl1, li_0, li_1, li_2, li_3, li_4, li_5, li_6, li_7, li_8, li_9, li_10, li_11, li_12, li_13, li_14, li_15, li_16, li_17, li_18, li_19, li_20, li_30, li_31, li_32, li_33, li_40, li_41, li_42, li_43, li_45, li_48, li_56, li_57, li_59, li_60, li_61, li_64, li_91, li_97, li_99, li_100, li_122, li_150, li_160, li_200, li_201, li_255, li_300, li_303, li_304, li_305, li_306, li_312, li_400, li_500, li_999, li_1003, li_3099, li_99999, li_100000, li_1000000, li_65, li_23, li_neg]); (try simp (disch := omega) only [f_X7_drawn, f_X7_in, f_X7_areWeeks, qa_bl1, ic_le_f, ic_le_t, ic_lt_f, ic_lt_t, ic_eq_f, ic_eq_t, ic_im, ic_mi, ic_mm_t, ic_mm_f, ic_mlt, ic_mle, ic_ilem, ic_iltm, ic_mmle_t, ic_mmle_f, pu_add, pu_mul, pu_in, pu_ck, pu_let, pu_cl, pu_cpok, pu_inr, Option.bind_some, ite_true, ite_false, pu_dm, pu_dv, pu_sub, nt_dm, if_true, if_false]))
  have hz3 : z ≤ 1003 := by omega
  have hv := lot_V (S := S) (n := n) (x0 := (nI s).toInt64 + 1) (od := nI od) v
  obtain ⟨T, hT⟩ : ∃ T, T = lot S n ((nI s).toInt64 + 1) (nI od) H := ⟨_, rfl⟩
  rw [← hT] at hv
  obtain ⟨x0, a1, a2, a3⟩ := kbeg c (qF.rf kL m)
  obtain ⟨x1, b1, b2, b3⟩ := klot (sd := nI s) (od := nI od) (n := n) a2 v (t.2.2.2.2.1.kL a3) t.2.2.2.2.2.2 hl (by omega) a3
  rw [lot_e (by omega), ← hT] at b2
  have r1 : MH x1 H := r.cl b3 (by decide)
  obtain ⟨y1, go, c1, c2, c3, c4, c5, c6⟩ := r7lot (sd := nI s) (od := nI od) (n := n) r1 v (t.2.2.2.2.2.1.F b3 (by decide) (by decide)) t.2.2.2.2.2.2 hl (by omega) (qF.rf _ _) (o36l.rf _ _)
  rw [← hT] at c3 c4
  have g1 : f_X1_left 21 x1 = some (nI (lfH T.1.A H.n)) := by
    have := kleft (h := 20) b2.1 hv.1.1
    rw [hv.2.1.1] at this
    exact this
  have g2 := r7leftMany c2.2.2.2.1 n8 c4 hv.1.1.av
  have g3 : f_X1_wornOfAll 21 x1 = some (swF T.1.A H.n) := by
    have := kwornAll b2 hv.1
    rw [hv.2.1.1] at this
    exact this
  have g4 := r7wornAll c2.2.2.2.1 n8 c4
  have h21 : x1 21 0 = nI H.n := by
    rw [← hv.2.1.1]
    exact b2.1.1.1
  have h36 : y1 36 0 = nI H.n := c2.2.2.2.1
  obtain ⟨ans, hans⟩ : ∃ ans : Int32, ans = if k = 0 then nI (lfH T.1.A H.n) else if k = 1 then nI T.2.1 else if k = 2 then (((nI 1 <<< (nI H.n &&& nI 31)) - nI 1) &&& (nI T.2.2.1 ^^^ nM 1)) else swF T.1.A H.n := ⟨_, rfl⟩
  have hks : k = 0 ∨ k = 1 ∨ k = 2 ∨ k = 3 := by omega
  refine ⟨ans, x1, y1, ?_, ?_, Rel.thk hD b3 c5 c6 c2⟩
  · ((try simp only [f_X6_drawn, f_X6_isSeed, f_X6_isWeeks, li_0, li_1, li_2, li_3, li_4, li_5, li_6, li_7, li_8, li_9, li_10, li_11, li_12, li_13, li_14, li_15, li_16, li_17, li_18, li_19, li_20, li_30, li_31, li_32, li_33, li_40, li_41, li_42, li_43, li_45, li_48, li_56, li_57, li_59, li_60, li_61, li_64, li_91, li_97, li_99, li_100, li_122, li_150, li_160, li_200, li_201, li_255, li_300, li_303, li_304, li_305, li_306, li_312, li_400, li_500, li_999, li_1003, li_3099, li_99999, li_100000, li_1000000, li_65, li_23, li_neg]); (try simp (disch := omega) only [f_X6_drawn, f_X6_isSeed, f_X6_isWeeks, ic_le_f, ic_le_t, ic_lt_f, ic_lt_t, ic_eq_f, ic_eq_t, ic_im, ic_mi, ic_mm_t, ic_mm_f, ic_mlt, ic_mle, ic_ilem, ic_iltm, ic_mmle_t, ic_mmle_f, pu_add, pu_mul, pu_in, pu_ck, pu_let, pu_cl, pu_cpok, pu_inr, Option.bind_some, ite_true, ite_false, pu_dm, pu_dv, pu_sub, nt_dm, if_true, if_false]))
    rw [← hk, ← hod, a1]
    ((try simp only [li_0, li_1, li_2, li_3, li_4, li_5, li_6, li_7, li_8, li_9, li_10, li_11, li_12, li_13, li_14, li_15, li_16, li_17, li_18, li_19, li_20, li_30, li_31, li_32, li_33, li_40, li_41, li_42, li_43, li_45, li_48, li_56, li_57, li_59, li_60, li_61, li_64, li_91, li_97, li_99, li_100, li_122, li_150, li_160, li_200, li_201, li_255, li_300, li_303, li_304, li_305, li_306, li_312, li_400, li_500, li_999, li_1003, li_3099, li_99999, li_100000, li_1000000, li_65, li_23, li_neg]); (try simp (disch := omega) only [ic_le_f, ic_le_t, ic_lt_f, ic_lt_t, ic_eq_f, ic_eq_t, ic_im, ic_mi, ic_mm_t, ic_mm_f, ic_mlt, ic_mle, ic_ilem, ic_iltm, ic_mmle_t, ic_mmle_f, pu_add, pu_mul, pu_in, pu_ck, pu_let, pu_cl, pu_cpok, pu_inr, Option.bind_some, ite_true, ite_false, pu_dm, pu_dv, pu_sub, nt_dm, if_true, if_false]))
    rw [b1]
    ((try simp only [li_0, li_1, li_2, li_3, li_4, li_5, li_6, li_7, li_8, li_9, li_10, li_11, li_12, li_13, li_14, li_15, li_16, li_17, li_18, li_19, li_20, li_30, li_31, li_32, li_33, li_40, li_41, li_42, li_43, li_45, li_48, li_56, li_57, li_59, li_60, li_61, li_64, li_91, li_97, li_99, li_100, li_122, li_150, li_160, li_200, li_201, li_255, li_300, li_303, li_304, li_305, li_306, li_312, li_400, li_500, li_999, li_1003, li_3099, li_99999, li_100000, li_1000000, li_65, li_23, li_neg]); (try simp (disch := omega) only [ic_le_f, ic_le_t, ic_lt_f, ic_lt_t, ic_eq_f, ic_eq_t, ic_im, ic_mi, ic_mm_t, ic_mm_f, ic_mlt, ic_mle, ic_ilem, ic_iltm, ic_mmle_t, ic_mmle_f, pu_add, pu_mul, pu_in, pu_ck, pu_let, pu_cl, pu_cpok, pu_inr, Option.bind_some, ite_true, ite_false, pu_dm, pu_dv, pu_sub, nt_dm, if_true, if_false]))
    rcases hks with w | w | w | w
    · have ha : ans = nI (lfH T.1.A H.n) := by rw [hans, if_pos w]
      rw [ha, w]
      ((try simp only [g1, li_0, li_1, li_2, li_3, li_4, li_5, li_6, li_7, li_8, li_9, li_10, li_11, li_12, li_13, li_14, li_15, li_16, li_17, li_18, li_19, li_20, li_30, li_31, li_32, li_33, li_40, li_41, li_42, li_43, li_45, li_48, li_56, li_57, li_59, li_60, li_61, li_64, li_91, li_97, li_99, li_100, li_122, li_150, li_160, li_200, li_201, li_255, li_300, li_303, li_304, li_305, li_306, li_312, li_400, li_500, li_999, li_1003, li_3099, li_99999, li_100000, li_1000000, li_65, li_23, li_neg]); (try simp (disch := omega) only [g1, ic_le_f, ic_le_t, ic_lt_f, ic_lt_t, ic_eq_f, ic_eq_t, ic_im, ic_mi, ic_mm_t, ic_mm_f, ic_mlt, ic_mle, ic_ilem, ic_iltm, ic_mmle_t, ic_mmle_f, pu_add, pu_mul, pu_in, pu_ck, pu_let, pu_cl, pu_cpok, pu_inr, Option.bind_some, ite_true, ite_false, pu_dm, pu_dv, pu_sub, nt_dm, if_true, if_false]))
    · have ha : ans = nI T.2.1 := by rw [hans, if_neg (by omega), if_pos w]
      rw [ha, w]
      ((try simp only [b2.2.1, li_0, li_1, li_2, li_3, li_4, li_5, li_6, li_7, li_8, li_9, li_10, li_11, li_12, li_13, li_14, li_15, li_16, li_17, li_18, li_19, li_20, li_30, li_31, li_32, li_33, li_40, li_41, li_42, li_43, li_45, li_48, li_56, li_57, li_59, li_60, li_61, li_64, li_91, li_97, li_99, li_100, li_122, li_150, li_160, li_200, li_201, li_255, li_300, li_303, li_304, li_305, li_306, li_312, li_400, li_500, li_999, li_1003, li_3099, li_99999, li_100000, li_1000000, li_65, li_23, li_neg]); (try simp (disch := omega) only [b2.2.1, ic_le_f, ic_le_t, ic_lt_f, ic_lt_t, ic_eq_f, ic_eq_t, ic_im, ic_mi, ic_mm_t, ic_mm_f, ic_mlt, ic_mle, ic_ilem, ic_iltm, ic_mmle_t, ic_mmle_f, pu_add, pu_mul, pu_in, pu_ck, pu_let, pu_cl, pu_cpok, pu_inr, Option.bind_some, ite_true, ite_false, pu_dm, pu_dv, pu_sub, nt_dm, if_true, if_false]))
    · have ha : ans = (((nI 1 <<< (nI H.n &&& nI 31)) - nI 1) &&& (nI T.2.2.1 ^^^ nM 1)) := by rw [hans, if_neg (by omega), if_neg (by omega), if_pos w]
      rw [ha, w]
      ((try simp only [h21, b2.2.2.1, li_0, li_1, li_2, li_3, li_4, li_5, li_6, li_7, li_8, li_9, li_10, li_11, li_12, li_13, li_14, li_15, li_16, li_17, li_18, li_19, li_20, li_30, li_31, li_32, li_33, li_40, li_41, li_42, li_43, li_45, li_48, li_56, li_57, li_59, li_60, li_61, li_64, li_91, li_97, li_99, li_100, li_122, li_150, li_160, li_200, li_201, li_255, li_300, li_303, li_304, li_305, li_306, li_312, li_400, li_500, li_999, li_1003, li_3099, li_99999, li_100000, li_1000000, li_65, li_23, li_neg]); (try simp (disch := omega) only [h21, b2.2.2.1, ic_le_f, ic_le_t, ic_lt_f, ic_lt_t, ic_eq_f, ic_eq_t, ic_im, ic_mi, ic_mm_t, ic_mm_f, ic_mlt, ic_mle, ic_ilem, ic_iltm, ic_mmle_t, ic_mmle_f, pu_add, pu_mul, pu_in, pu_ck, pu_let, pu_cl, pu_cpok, pu_inr, Option.bind_some, ite_true, ite_false, pu_dm, pu_dv, pu_sub, nt_dm, if_true, if_false]))
    · have ha : ans = swF T.1.A H.n := by rw [hans, if_neg (by omega), if_neg (by omega), if_neg (by omega)]
      rw [ha, w]
      ((try simp only [g3, li_0, li_1, li_2, li_3, li_4, li_5, li_6, li_7, li_8, li_9, li_10, li_11, li_12, li_13, li_14, li_15, li_16, li_17, li_18, li_19, li_20, li_30, li_31, li_32, li_33, li_40, li_41, li_42, li_43, li_45, li_48, li_56, li_57, li_59, li_60, li_61, li_64, li_91, li_97, li_99, li_100, li_122, li_150, li_160, li_200, li_201, li_255, li_300, li_303, li_304, li_305, li_306, li_312, li_400, li_500, li_999, li_1003, li_3099, li_99999, li_100000, li_1000000, li_65, li_23, li_neg]); (try simp (disch := omega) only [g3, ic_le_f, ic_le_t, ic_lt_f, ic_lt_t, ic_eq_f, ic_eq_t, ic_im, ic_mi, ic_mm_t, ic_mm_f, ic_mlt, ic_mle, ic_ilem, ic_iltm, ic_mmle_t, ic_mmle_f, pu_add, pu_mul, pu_in, pu_ck, pu_let, pu_cl, pu_cpok, pu_inr, Option.bind_some, ite_true, ite_false, pu_dm, pu_dv, pu_sub, nt_dm, if_true, if_false]))
  · ((try simp only [f_X7_drawn, f_X7_in, f_X7_areWeeks, qa_bl1, li_0, li_1, li_2, li_3, li_4, li_5, li_6, li_7, li_8, li_9, li_10, li_11, li_12, li_13, li_14, li_15, li_16, li_17, li_18, li_19, li_20, li_30, li_31, li_32, li_33, li_40, li_41, li_42, li_43, li_45, li_48, li_56, li_57, li_59, li_60, li_61, li_64, li_91, li_97, li_99, li_100, li_122, li_150, li_160, li_200, li_201, li_255, li_300, li_303, li_304, li_305, li_306, li_312, li_400, li_500, li_999, li_1003, li_3099, li_99999, li_100000, li_1000000, li_65, li_23, li_neg]); (try simp (disch := omega) only [f_X7_drawn, f_X7_in, f_X7_areWeeks, qa_bl1, ic_le_f, ic_le_t, ic_lt_f, ic_lt_t, ic_eq_f, ic_eq_t, ic_im, ic_mi, ic_mm_t, ic_mm_f, ic_mlt, ic_mle, ic_ilem, ic_iltm, ic_mmle_t, ic_mmle_f, pu_add, pu_mul, pu_in, pu_ck, pu_let, pu_cl, pu_cpok, pu_inr, Option.bind_some, ite_true, ite_false, pu_dm, pu_dv, pu_sub, nt_dm, if_true, if_false]))
    rw [← hk, ← hod, c1]
    ((try simp only [li_0, li_1, li_2, li_3, li_4, li_5, li_6, li_7, li_8, li_9, li_10, li_11, li_12, li_13, li_14, li_15, li_16, li_17, li_18, li_19, li_20, li_30, li_31, li_32, li_33, li_40, li_41, li_42, li_43, li_45, li_48, li_56, li_57, li_59, li_60, li_61, li_64, li_91, li_97, li_99, li_100, li_122, li_150, li_160, li_200, li_201, li_255, li_300, li_303, li_304, li_305, li_306, li_312, li_400, li_500, li_999, li_1003, li_3099, li_99999, li_100000, li_1000000, li_65, li_23, li_neg]); (try simp (disch := omega) only [ic_le_f, ic_le_t, ic_lt_f, ic_lt_t, ic_eq_f, ic_eq_t, ic_im, ic_mi, ic_mm_t, ic_mm_f, ic_mlt, ic_mle, ic_ilem, ic_iltm, ic_mmle_t, ic_mmle_f, pu_add, pu_mul, pu_in, pu_ck, pu_let, pu_cl, pu_cpok, pu_inr, Option.bind_some, ite_true, ite_false, pu_dm, pu_dv, pu_sub, nt_dm, if_true, if_false]))
    rcases hks with w | w | w | w
    · have ha : ans = nI (lfH T.1.A H.n) := by rw [hans, if_pos w]
      rw [ha, w]
      ((try simp only [g2, li_0, li_1, li_2, li_3, li_4, li_5, li_6, li_7, li_8, li_9, li_10, li_11, li_12, li_13, li_14, li_15, li_16, li_17, li_18, li_19, li_20, li_30, li_31, li_32, li_33, li_40, li_41, li_42, li_43, li_45, li_48, li_56, li_57, li_59, li_60, li_61, li_64, li_91, li_97, li_99, li_100, li_122, li_150, li_160, li_200, li_201, li_255, li_300, li_303, li_304, li_305, li_306, li_312, li_400, li_500, li_999, li_1003, li_3099, li_99999, li_100000, li_1000000, li_65, li_23, li_neg]); (try simp (disch := omega) only [g2, ic_le_f, ic_le_t, ic_lt_f, ic_lt_t, ic_eq_f, ic_eq_t, ic_im, ic_mi, ic_mm_t, ic_mm_f, ic_mlt, ic_mle, ic_ilem, ic_iltm, ic_mmle_t, ic_mmle_f, pu_add, pu_mul, pu_in, pu_ck, pu_let, pu_cl, pu_cpok, pu_inr, Option.bind_some, ite_true, ite_false, pu_dm, pu_dv, pu_sub, nt_dm, if_true, if_false]))
    · have ha : ans = nI T.2.1 := by rw [hans, if_neg (by omega), if_pos w]
      rw [ha, w]
      ((try simp only [c3.1, li_0, li_1, li_2, li_3, li_4, li_5, li_6, li_7, li_8, li_9, li_10, li_11, li_12, li_13, li_14, li_15, li_16, li_17, li_18, li_19, li_20, li_30, li_31, li_32, li_33, li_40, li_41, li_42, li_43, li_45, li_48, li_56, li_57, li_59, li_60, li_61, li_64, li_91, li_97, li_99, li_100, li_122, li_150, li_160, li_200, li_201, li_255, li_300, li_303, li_304, li_305, li_306, li_312, li_400, li_500, li_999, li_1003, li_3099, li_99999, li_100000, li_1000000, li_65, li_23, li_neg]); (try simp (disch := omega) only [c3.1, ic_le_f, ic_le_t, ic_lt_f, ic_lt_t, ic_eq_f, ic_eq_t, ic_im, ic_mi, ic_mm_t, ic_mm_f, ic_mlt, ic_mle, ic_ilem, ic_iltm, ic_mmle_t, ic_mmle_f, pu_add, pu_mul, pu_in, pu_ck, pu_let, pu_cl, pu_cpok, pu_inr, Option.bind_some, ite_true, ite_false, pu_dm, pu_dv, pu_sub, nt_dm, if_true, if_false]))
    · have ha : ans = (((nI 1 <<< (nI H.n &&& nI 31)) - nI 1) &&& (nI T.2.2.1 ^^^ nM 1)) := by rw [hans, if_neg (by omega), if_neg (by omega), if_pos w]
      rw [ha, w]
      ((try simp only [h36, c3.2.1, li_0, li_1, li_2, li_3, li_4, li_5, li_6, li_7, li_8, li_9, li_10, li_11, li_12, li_13, li_14, li_15, li_16, li_17, li_18, li_19, li_20, li_30, li_31, li_32, li_33, li_40, li_41, li_42, li_43, li_45, li_48, li_56, li_57, li_59, li_60, li_61, li_64, li_91, li_97, li_99, li_100, li_122, li_150, li_160, li_200, li_201, li_255, li_300, li_303, li_304, li_305, li_306, li_312, li_400, li_500, li_999, li_1003, li_3099, li_99999, li_100000, li_1000000, li_65, li_23, li_neg]); (try simp (disch := omega) only [h36, c3.2.1, ic_le_f, ic_le_t, ic_lt_f, ic_lt_t, ic_eq_f, ic_eq_t, ic_im, ic_mi, ic_mm_t, ic_mm_f, ic_mlt, ic_mle, ic_ilem, ic_iltm, ic_mmle_t, ic_mmle_f, pu_add, pu_mul, pu_in, pu_ck, pu_let, pu_cl, pu_cpok, pu_inr, Option.bind_some, ite_true, ite_false, pu_dm, pu_dv, pu_sub, nt_dm, if_true, if_false]))
    · have ha : ans = swF T.1.A H.n := by rw [hans, if_neg (by omega), if_neg (by omega), if_neg (by omega)]
      rw [ha, w]
      ((try simp only [g4, li_0, li_1, li_2, li_3, li_4, li_5, li_6, li_7, li_8, li_9, li_10, li_11, li_12, li_13, li_14, li_15, li_16, li_17, li_18, li_19, li_20, li_30, li_31, li_32, li_33, li_40, li_41, li_42, li_43, li_45, li_48, li_56, li_57, li_59, li_60, li_61, li_64, li_91, li_97, li_99, li_100, li_122, li_150, li_160, li_200, li_201, li_255, li_300, li_303, li_304, li_305, li_306, li_312, li_400, li_500, li_999, li_1003, li_3099, li_99999, li_100000, li_1000000, li_65, li_23, li_neg]); (try simp (disch := omega) only [g4, ic_le_f, ic_le_t, ic_lt_f, ic_lt_t, ic_eq_f, ic_eq_t, ic_im, ic_mi, ic_mm_t, ic_mm_f, ic_mlt, ic_mle, ic_ilem, ic_iltm, ic_mmle_t, ic_mmle_f, pu_add, pu_mul, pu_in, pu_ck, pu_let, pu_cl, pu_cpok, pu_inr, Option.bind_some, ite_true, ite_false, pu_dm, pu_dv, pu_sub, nt_dm, if_true, if_false]))
