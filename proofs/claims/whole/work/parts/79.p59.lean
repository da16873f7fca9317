/-! PURE: when, whole -/
def vGn (n G : Nat) : Nat := if G = 0 then n else G - 1
def shG (a g : Nat) : Nat := if g = 0 then 0 else g + a
theorem gnF_sh {S : SF} {R : Nat → Nat} {i a : Nat} : ∀ (d z : Nat) (X Y : TY), X.1 = Y.1 → X.2.2.2.2 = Y.2.2.2.2 + a → gnF S R i (shG a z) d X = shG a (gnF S R i z d Y) := by
  intro d
  induction d with
  | zero => exact fun _ _ _ _ _ => rfl
  | succ d ih =>
    intro z X Y h1 h2
    have hw1 : (wkT S (R 0) (R 2) X).1 = (wkT S (R 0) (R 2) Y).1 := by
      show (weekA S (R 0) (R 2) X.1).1 = (weekA S (R 0) (R 2) Y.1).1
      rw [h1]
    have hw2 : (wkT S (R 0) (R 2) X).2.2.2.2 = (wkT S (R 0) (R 2) Y).2.2.2.2 + a := by
      show X.2.2.2.2 + 1 = Y.2.2.2.2 + 1 + a
      omega
    rw [gnF, gnF, hw1, h1]
    by_cases q : (wkT S (R 0) (R 2) Y).1.A i 7 = 1 ∧ ¬ Y.1.A i 7 = 1
    · rw [if_pos q, if_pos q, ← ih _ _ _ hw1 hw2]
      have e : shG a (Y.2.2.2.2 + 1) = X.2.2.2.2 + 1 := by
        unfold shG
        rw [if_neg (by omega)]
        omega
      rw [e]
    · rw [if_neg q, if_neg q]
      exact ih _ _ _ hw1 hw2
/-- the week of cloths, from 1 on, turned ahead of week t, where it may be -/
def gtF (S : SF) (H : HS) (i n t : Nat) : Nat := if t < n ∧ mayA (thk S t H).1 i = true then gnF S H.R i 0 (n - t) (turnT i (thk S t H)) else gnF S H.R i 0 n (ty0 H)
theorem r7goneOf {m : qaM} {H : HS} {S : SF} {i n t N : Nat} {v3 : Int32} (c : MH m H) (v : HV H) (tx : TXr m N S) (sv : SV S) (hN : H.lw < N) (hn : n ≤ 300) (hi : i < H.n) (ht : t ≤ n) (h3 : ∀ j : Nat, j < n → (nI j = v3 ↔ j = t)) :
    ∃ m2, f_X7_goneOf m (nI i) (nI n) v3 = some (nI (vGn n (gtF S H i n t)), m2) ∧ MH m2 H ∧ qF rL m m2 ∧ o36l [37, 38, 39, 43, 44, 46] m m2 ∧ m2 36 46 = if t < n ∧ mayA (thk S t H).1 i = true then nI 1 else nI 0 := by
  have hr := v.rs
  have n8 := v.n8
  obtain ⟨m0, hm0⟩ : ∃ m0, m0 = qa_st m 36 46 (nI 0) := ⟨_, rfl⟩
  have f0 : qF [36] m m0 := by
    rw [hm0]
    exact qF.st _ _ _ _
  have o0 : o36l [46] m m0 := by
    rw [hm0]
    exact o36l.st _ _ _
  have c0 : MH m0 H := c.T f0 (by simp) (by simp) (by simp) (by simp) (by simp) o0 (by simp) (by simp) (by simp) (by simp)
  have t0 : TXr m0 N S := tx.F f0 (by simp) (by simp)
  have h046 : m0 36 46 = nI 0 := by
    rw [hm0, st_s, up_s]
  obtain ⟨m1, e1, e2, e3, e4, e5⟩ := r7keeps m0
  have c1 : MH m1 H := c0.T e4 (by decide) (by decide) (by decide) (by decide) (by decide) e5 (by decide) (by decide) (by decide) (by decide)
  have rx0 : RX m1 m0 (ty0 H) (fun _ => 0) H.n := ⟨c1, ⟨_, e3, fun _ _ => rfl⟩, e2, e4.mo (by simp), e5.tr (o36l.rf [] _) (by simp) (by simp)⟩
  obtain ⟨Bt, hBt⟩ : ∃ Bt : Int32, Bt = if t < n ∧ mayA (thk S t H).1 i = true then nI 1 else nI 0 := ⟨_, rfl⟩
  rw [← hBt]
  -- one week, whatever stands
  have hweek : ∀ (x : qaM) (X : TY) (gf : Nat → Nat) (j G : Nat), RX x m0 X gf H.n → TV X → HK H X.1 → X.2.2.2.2 = j → (gf i ≠ 0 → X.1.A i 7 = 1) → gnF S H.R i (gf i) (n - j) X = G → j < n →
      ∃ x2 gf2, b_X7_goneOf_42 x (nI i) (nI n) v3 (nI j) = some (.inl (x2, nI (j + 1))) ∧ RX x2 m0 (wkT S (H.R 0) (H.R 2) X) gf2 H.n ∧ TV (wkT S (H.R 0) (H.R 2) X) ∧ HK H (wkT S (H.R 0) (H.R 2) X).1 ∧ (wkT S (H.R 0) (H.R 2) X).2.2.2.2 = j + 1
        ∧ (gf2 i ≠ 0 → (wkT S (H.R 0) (H.R 2) X).1.A i 7 = 1) ∧ gnF S H.R i (gf2 i) (n - (j + 1)) (wkT S (H.R 0) (H.R 2) X) = G ∧ x2 36 46 = x 36 46 := by
    intro x X gf j G rx hv hk hli hz hg hj
    have hXn : X.1.n = H.n := hk.1
    have h410 : x 41 0 = nI (H.R 0) := by
      rw [← hk.2.1]
      exact rx.1.2.2.1 0 (by omega)
    have h412 : x 41 2 = nI (H.R 2) := by
      rw [← hk.2.1]
      exact rx.1.2.2.1 2 (by omega)
    have hw := wkT_V (S := S) (wan := H.R 0) (how := H.R 2) hv
    obtain ⟨c, ⟨go, rt, hgo⟩, kr, hf, ho⟩ := rx
    obtain ⟨x2, go2, g1, g2, g3, g4, g5, g6⟩ := r7week (wan := H.R 0) (how := H.R 2) (w := X.2.2.2.2) c hv.1 rt (t0.F hf (by decide) (by decide)) sv (by rw [hk.2.2]; exact hN) hv.2 (by omega) hr.1 hr.2.2.1
    refine ⟨x2, fun k => if (wkT S (H.R 0) (H.R 2) X).1.A k 7 = 1 ∧ ¬ X.1.A k 7 = 1 then X.2.2.2.2 + 1 else gf k, ?_, ⟨g2, ⟨go2, g3, fun k hk2 => ?_⟩, ?_, hf.t2 g5 (by simp), ho.tr g6 (fun _ z => z) (by simp)⟩, hw.1, hk.tr hw.2.1, by rw [hw.2.2, hli], ?_, ?_, g6 46 (by decide)⟩
    · unfold b_X7_goneOf_42
      rw [h410, h412]
      rw [hli] at g1
      rw [g1]
      ((try simp only [li_0, li_1, li_2, li_3, li_4, li_5, li_6, li_7, li_8, li_9, li_10, li_11, li_12, li_13, li_14, li_15, li_16, li_17, li_18, li_19, li_20, li_30, li_31, li_32, li_33, li_40, li_41, li_42, li_43, li_45, li_48, li_56, li_57, li_59, li_60, li_61, li_64, li_91, li_97, li_99, li_100, li_122, li_150, li_160, li_200, li_201, li_255, li_300, li_303, li_304, li_305, li_306, li_312, li_400, li_500, li_999, li_1003, li_3099, li_99999, li_100000, li_1000000, li_65, li_23, li_neg]); (try simp (disch := omega) only [ic_le_f, ic_le_t, ic_lt_f, ic_lt_t, ic_eq_f, ic_eq_t, ic_im, ic_mi, ic_mm_t, ic_mm_f, ic_mlt, ic_mle, ic_ilem, ic_iltm, ic_mmle_t, ic_mmle_f, pu_add, pu_mul, pu_in, pu_ck, pu_let, pu_cl, pu_cpok, pu_inr, Option.bind_some, ite_true, ite_false, pu_dm, pu_dv, pu_sub, nt_dm, if_true, if_false]))
    · rw [g4 k (by rw [hXn]; exact hk2), hgo k hk2]
      rfl
    · unfold KR
      rw [g5 57 (by decide), g5 58 (by decide), g6 43 (by decide), g6 44 (by decide)]
      exact kr
    · show (if _ then _ else _) ≠ 0 → _
      by_cases q : (wkT S (H.R 0) (H.R 2) X).1.A i 7 = 1 ∧ ¬ X.1.A i 7 = 1
      · exact fun _ => q.1
      · rw [if_neg q]
        exact fun y => wk_cl hv (by rw [hXn]; exact hi) (hz y)
    · show gnF S H.R i (if _ then _ else _) _ _ = G
      have hd : n - j = (n - (j + 1)) + 1 := by omega
      rw [hd, gnF] at hg
      by_cases q : (wkT S (H.R 0) (H.R 2) X).1.A i 7 = 1 ∧ ¬ X.1.A i 7 = 1
      · rw [if_pos q] at hg ⊢
        exact hg
      · rw [if_neg q] at hg ⊢
        exact hg
  obtain ⟨r, a1, a2, a3, a4, a5, a6⟩ := lp_at (f := fun s : qaM × Int32 => b_X7_goneOf_12 s.1 (nI i) (nI n) v3 s.2)
    (fun j s => s.2 = nI j ∧ ∃ (X : TY) (gf : Nat → Nat), RX s.1 m0 X gf H.n ∧ TV X ∧ HK H X.1 ∧ X.2.2.2.2 = j ∧ (gf i ≠ 0 → X.1.A i 7 = 1) ∧ ((j ≤ t ∧ X = thk S j H ∧ gnF S H.R i (gf i) (n - j) X = gnF S H.R i 0 n (ty0 H) ∧ s.1 36 46 = nI 0) ∨ (t < j ∧ gnF S H.R i (gf i) (n - j) X = gtF S H i n t ∧ s.1 36 46 = Bt)))
    (fun q => q.1 = nI (vGn n (gtF S H i n t)) ∧ MH q.2 H ∧ qF rL m0 q.2 ∧ o36l [37, 38, 39, 43, 44, 46] m0 q.2 ∧ q.2 36 46 = Bt) n (s := (m1, nI 0)) ⟨rfl, ty0 H, fun _ => 0, rx0, ty0_V v, HK.rf _, rfl, fun q => absurd rfl q, Or.inl ⟨Nat.zero_le _, rfl, by rw [Nat.sub_zero], (e5 46 (by decide)).trans h046⟩⟩ (by omega) (by
    rintro j ⟨x, k⟩ hj ⟨hkk, X, gf, rx, hv, hk, hli, hz, hph⟩
    have hk2 : k = nI j := hkk
    subst hk2
    replace rx : RX x m0 X gf H.n := rx
    show (∃ s', b_X7_goneOf_12 x (nI i) (nI n) v3 (nI j) = some (.inl s') ∧ _) ∨ (∃ q, b_X7_goneOf_12 x (nI i) (nI n) v3 (nI j) = some (.inr q) ∧ _)
    have hXn : X.1.n = H.n := hk.1
    unfold b_X7_goneOf_12
    rcases Nat.lt_or_ge j n with q | q
    · rw [ic_le_f q (by omega)]
      simp only [li_0, li_1, li_2, li_3, li_4, li_5, li_6, li_7, li_8, li_9, li_10, li_11, li_12, li_13, li_14, li_15, li_16, li_17, li_18, li_19, li_20, li_30, li_31, li_32, li_33, li_40, li_41, li_42, li_43, li_45, li_48, li_56, li_57, li_59, li_60, li_61, li_64, li_91, li_97, li_99, li_100, li_122, li_150, li_160, li_200, li_201, li_255, li_300, li_303, li_304, li_305, li_306, li_312, li_400, li_500, li_999, li_1003, li_3099, li_99999, li_100000, li_1000000, li_65, li_23, li_neg]
      by_cases ej : j = t
      · have hph2 : X = thk S j H ∧ gnF S H.R i (gf i) (n - j) X = gnF S H.R i 0 n (ty0 H) ∧ x 36 46 = nI 0 := by
          rcases hph with ⟨_, w⟩ | ⟨w, _⟩
          · exact w
          · omega
        obtain ⟨p1, p2, p3⟩ := hph2
        rw [if_pos ((h3 j q).mpr ej), r7mayTurn rx.1 hv.1 (by rw [hXn]; exact hi), Option.bind_some]
        by_cases y : mayA X.1 i = true
        · rw [if_pos y, if_neg n10]
          have hgt : gtF S H i n t = gnF S H.R i 0 (n - j) (turnT i X) := by
            unfold gtF
            rw [← ej, ← p1, if_pos ⟨q, y⟩]
          have hB1 : Bt = nI 1 := by
            rw [hBt, ← ej, ← p1, if_pos ⟨q, y⟩]
          have hfr := hv.1.fr i (mayA_o y).2
          have hgz : gf i = 0 := by
            by_cases w : gf i = 0
            · exact w
            · have := hz w
              omega
          obtain ⟨x2, g1, g2⟩ := r7rxT rx hv hXn hi
          have htv := turnT_V hv (i := i) (by rw [hXn]; exact hi)
          obtain ⟨x3, gf2, k1, k2, k3, k4, k5, k6, k7, k8⟩ := hweek _ (turnT i X) gf j (gtF S H i n t) g2 htv ⟨hk.1, hk.2.1, hk.2.2⟩ hli (fun w => absurd hgz w) (by rw [hgz, hgt]) q
          rw [g1, Option.bind_some, pu_let]
          exact Or.inl ⟨(x3, nI (j + 1)), k1, q, rfl, _, gf2, k2, k3, k4, k5, k6, Or.inr ⟨by omega, k7, (k8.trans (by rw [st_s, up_s])).trans hB1.symm⟩⟩
        · rw [if_neg y, if_pos rfl]
          have hgt : gtF S H i n t = gnF S H.R i 0 n (ty0 H) := by
            unfold gtF
            rw [← ej, ← p1, if_neg (fun w => y w.2)]
          have hB0 : Bt = nI 0 := by
            rw [hBt, ← ej, ← p1, if_neg (fun w => y w.2)]
          obtain ⟨x3, gf2, k1, k2, k3, k4, k5, k6, k7, k8⟩ := hweek x X gf j (gtF S H i n t) rx hv hk hli hz (by rw [hgt]; exact p2) q
          exact Or.inl ⟨(x3, nI (j + 1)), k1, q, rfl, _, gf2, k2, k3, k4, k5, k6, Or.inr ⟨by omega, k7, (k8.trans p3).trans hB0.symm⟩⟩
      · rw [if_neg (fun w => ej ((h3 j q).mp w))]
        rcases hph with ⟨p0, p1, p2, p3⟩ | ⟨p0, p1, p2⟩
        · obtain ⟨x3, gf2, k1, k2, k3, k4, k5, k6, k7, k8⟩ := hweek x X gf j _ rx hv hk hli hz p2 q
          refine Or.inl ⟨(x3, nI (j + 1)), k1, q, rfl, _, gf2, k2, k3, k4, k5, k6, Or.inl ⟨by omega, ?_, k7, k8.trans p3⟩⟩
          rw [p1]
          rfl
        · obtain ⟨x3, gf2, k1, k2, k3, k4, k5, k6, k7, k8⟩ := hweek x X gf j _ rx hv hk hli hz p1 q
          exact Or.inl ⟨(x3, nI (j + 1)), k1, q, rfl, _, gf2, k2, k3, k4, k5, k6, Or.inr ⟨by omega, k7, k8.trans p2⟩⟩
    · have hjn : j = n := by omega
      subst hjn
      obtain ⟨x2, g1, g2, ⟨go, g3, g3b⟩, g4, g5, g6⟩ := r7rxE rx c0 n8
      have hfin : gf i = gtF S H i j t ∧ x 36 46 = Bt := by
        rcases hph with ⟨p0, p1, p2, p3⟩ | ⟨p0, p1, p2⟩
        · have htj : t = j := by omega
          rw [Nat.sub_self, gnF] at p2
          refine ⟨?_, ?_⟩
          · unfold gtF
            rw [if_neg (fun w => by omega)]
            exact p2
          · rw [hBt, if_neg (fun w => by omega)]
            exact p3
        · rw [Nat.sub_self, gnF] at p1
          exact ⟨p1, p2⟩
      have h56 : x2 56 i = plI (gtF S H i j t) := by
        rw [g3.2.2.2 i (by omega), g3b i hi, hfin.1]
      have hle : gtF S H i j t ≤ 2 ^ 20 := by
        have hg0 := gnF_0 (S := S) (R := H.R) (i := i) j (ty0 H) (ty0_V v) hi
        unfold gtF
        by_cases w : t < j ∧ mayA (thk S t H).1 i = true
        · rw [if_pos w]
          have hv2 := thk_V (S := S) (n := t) v
          have := gnF_0 (S := S) (R := H.R) (i := i) (j - t) (turnT i (thk S t H)) (turnT_V hv2.1 (by rw [hv2.2.1]; exact hi)) (by show i < (thk S t H).1.n; rw [hv2.2.1]; exact hi)
          have h5 : (turnT i (thk S t H)).2.2.2.2 = t := thk_li v
          omega
        · rw [if_neg w]
          have h5 : (ty0 H).2.2.2.2 = 0 := rfl
          omega
      refine Or.inr ⟨(nI (vGn j (gtF S H i j t)), x2), ?_, rfl, g2, g4, g5, g6.trans hfin.2⟩
      rw [ic_le_t (by omega) (by omega)]
      unfold b_X7_goneOf_66
      rw [g1, Option.bind_some, pu_in (by omega) (by omega), pu_ck, pu_cl (by omega), pu_ck, h56]
      simp only [li_0, li_1, li_2, li_3, li_4, li_5, li_6, li_7, li_8, li_9, li_10, li_11, li_12, li_13, li_14, li_15, li_16, li_17, li_18, li_19, li_20, li_30, li_31, li_32, li_33, li_40, li_41, li_42, li_43, li_45, li_48, li_56, li_57, li_59, li_60, li_61, li_64, li_91, li_97, li_99, li_100, li_122, li_150, li_160, li_200, li_201, li_255, li_300, li_303, li_304, li_305, li_306, li_312, li_400, li_500, li_999, li_1003, li_3099, li_99999, li_100000, li_1000000, li_65, li_23, li_neg]
      unfold vGn
      by_cases w : gtF S H i j t = 0
      · rw [w, plI_0, if_pos rfl, if_pos rfl]
        rfl
      · obtain ⟨p, hp⟩ : ∃ p, gtF S H i j t = p + 1 := ⟨gtF S H i j t - 1, by omega⟩
        rw [hp, plI_s, if_neg (fun z => nM_eqI (by omega) (by omega) (Or.inl (by omega)) z.symm), if_neg (by omega)]
        rfl)
  refine ⟨r.2, ?_, a3, (f0.mo (by simp [rL])).t2 a4 (fun _ z => z), o0.tr a5 (by simp) (fun _ z => z), a6⟩
  unfold f_X7_goneOf
  simp only [li_0, li_1, li_2, li_3, li_4, li_5, li_6, li_7, li_8, li_9, li_10, li_11, li_12, li_13, li_14, li_15, li_16, li_17, li_18, li_19, li_20, li_30, li_31, li_32, li_33, li_40, li_41, li_42, li_43, li_45, li_48, li_56, li_57, li_59, li_60, li_61, li_64, li_91, li_97, li_99, li_100, li_122, li_150, li_160, li_200, li_201, li_255, li_300, li_303, li_304, li_305, li_306, li_312, li_400, li_500, li_999, li_1003, li_3099, li_99999, li_100000, li_1000000, li_65, li_23, li_neg]
  rw [pu_let, ← hm0, e1, Option.bind_some, lp_X7_goneOf_12, a1, ← a2]
def wbF (mT : Nat → Bool) (vT : Nat → Nat) : Nat → Nat
  | 0 => 0
  | a + 1 => if mT a = true ∧ (wbF mT vT a = 0 ∨ vT (wbF mT vT a - 1) < vT a) then a + 1 else wbF mT vT a
theorem wbF_s (mT : Nat → Bool) (vT : Nat → Nat) (a : Nat) : wbF mT vT (a + 1) = if mT a = true ∧ (wbF mT vT a = 0 ∨ vT (wbF mT vT a - 1) < vT a) then a + 1 else wbF mT vT a := rfl
theorem wbF_le (mT : Nat → Bool) (vT : Nat → Nat) (a : Nat) : wbF mT vT a ≤ a := by
  induction a with
  | zero => exact Nat.le_refl _
  | succ a ih =>
    rw [wbF_s]
    split <;> omega
def kM : List Nat := [4, 5, 20, 21, 22, 23, 24, 25, 26, 27, 28, 29, 30, 31]
