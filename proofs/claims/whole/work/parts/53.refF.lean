/-! PURE: the reference's week, whole (2) -/
theorem r7was {m : qaM} {N v w tf ou fi0 fi : Nat} {go0 go : Nat → Nat} {A0 : Nat → AL} {H : HS} {S : SF} (c : MH m H) (hv : HV H) (hw : WV H v 0) (rt : RT m tf ou fi go) (gd : GD H.n w fi0 A0 go0 H.A fi go)
    (t : TXr m N S) (sv : SV S) (hN : H.lw < N) (hb : v < 2 ^ 31) (hfi : fi0 ≤ w) (hww : w < 2 ^ 20) :
    ∃ m2 fi2 go2, f_X7_washes m (nI v) (nI w) = some m2 ∧ MH m2 (was S v H) ∧ RT m2 tf ou fi2 go2 ∧ GD H.n w fi0 A0 go0 (was S v H).A fi2 go2 ∧ qF [36, 39, 40, 54, 55, 56] m m2 ∧ o36l [5, 39] m m2 := by
  have h8 := hv.n8
  obtain ⟨m2, e1, e2, _, _, _, _, fi2, go2, e3, e4, e5, e6⟩ := lp_for (f := fun s : qaM × Int32 => b_X7_washes_2 s.1 (nI v) (nI w) s.2) (waS S v)
    (fun j x X => MH x X ∧ HV X ∧ WV X v j ∧ X.n = H.n ∧ X.lw = H.lw ∧ ∃ fi2 go2, RT x tf ou fi2 go2 ∧ GD H.n w fi0 A0 go0 X.A fi2 go2 ∧ qF [36, 39, 40, 54, 55, 56] m x ∧ o36l [5, 39] m x) H.n (by omega) ⟨c, hv, hw, rfl, rfl, fi, go, rt, gd, qF.rf _ _, o36l.rf _ _⟩
    (by
      rintro j x X hj ⟨k1, k2, k3, k4, k5, fi2, go2, k6, k7, k8, k9⟩
      rw [← k4] at k7 hj
      obtain ⟨x2, fi3, go3, g1, g2, g3, g4, g5, g6⟩ := r7waS k1 k2 k3 k6 k7 (t.F k8 (by decide) (by decide)) sv (by rw [k5]; exact hN) hj hb hfi hww
      have g7 := waS_V (S := S) k2 k3 hj
      rw [k4] at g4
      exact ⟨x2, g1, g2, g7.1, g7.2.1, g7.2.2.trans k4, (waS_lw S v j X).trans k5, fi3, go3, g3, g4, k8.t2 g5 (fun _ z => z), k9.tr g6 (fun _ z => z) (fun _ z => z)⟩)
    (by
      rintro x X ⟨k1, k2, k3, k4, k5, k6⟩
      show b_X7_washes_2 x (nI v) (nI w) (nI H.n) = _
      unfold b_X7_washes_2
      rw [k1.2.2.2.1, k4]
      ((try simp only [li_0, li_1, li_2, li_3, li_4, li_5, li_6, li_7, li_8, li_9, li_10, li_11, li_12, li_13, li_14, li_15, li_16, li_17, li_18, li_19, li_20, li_30, li_31, li_32, li_33, li_40, li_41, li_42, li_43, li_45, li_48, li_56, li_57, li_59, li_60, li_61, li_64, li_91, li_97, li_99, li_100, li_122, li_150, li_160, li_200, li_201, li_255, li_300, li_303, li_304, li_305, li_306, li_312, li_400, li_500, li_999, li_1003, li_3099, li_99999, li_100000, li_neg]); simp (disch := omega) only [ic_le_f, ic_le_t, ic_lt_f, ic_lt_t, ic_eq_f, ic_eq_t, ic_im, ic_mi, ic_mm_t, ic_mm_f, ic_mlt, ic_mle, ic_ilem, ic_iltm, ic_mmle_t, ic_mmle_f, pu_add, pu_mul, pu_in, pu_ck, pu_let, pu_cl, pu_cpok, pu_inr, Option.bind_some, ite_true, ite_false]))
  exact ⟨m2, fi2, go2, e1, e2, e3, e4, e5, e6⟩
theorem r7srS {m : qaM} {p w tf ou fi0 fi : Nat} {go0 go : Nat → Nat} {A0 : Nat → AL} {H : HS} (c : MH m H) (hv : HV H) (rt : RT m tf ou fi go) (gd : GD H.n w fi0 A0 go0 H.A fi go) (hp : p < H.P.length) (hfi : fi0 ≤ w) (hww : w < 2 ^ 20) :
    ∃ m2 fi2 go2, b_X7_sorts_7 m (nI w) (nI p) = some (.inl (m2, plI p)) ∧ MH m2 (drS p H) ∧ RT m2 tf ou fi2 go2 ∧ GD H.n w fi0 A0 go0 (drS p H).A fi2 go2 ∧ qF [36, 39, 40, 56] m m2 ∧ o36l [5, 39] m m2 := by
  have h8 := c.2.1.2.1
  have hi := hv.i8 _ (getD_mem hp)
  have hin := hv.lt _ (getD_mem hp)
  have a3 := (hv.av (H.P.getD p 0)).2.2.2.1
  have hfr := hv.fr _ (getD_mem hp)
  have hfi2 := gd.fi hfi
  have r1 : m 39 (6 * H.P.getD p 0 + 1) = nI (H.A (H.P.getD p 0) 3) := r7row c hin (k := 1) (by omega) (by omega)
  unfold b_X7_sorts_7 drS
  by_cases q : H.A (H.P.getD p 0) 3 = 99
  · rw [if_pos q]
    obtain ⟨m2, e1, e2, e3, e4⟩ := r7takesFrom c hp
    have rt2 : RT m2 tf ou fi go := rt.F e3 (by decide) (e4.l (l := [5]) (by simp)) (by simp) (by simp) (by simp)
    obtain ⟨m3, o1, o2, o3, o4, o6⟩ := r7cloths (w := w) e2 rt2 hi (by omega)
    refine ⟨m3, fiW fi w, goU go (H.P.getD p 0) w, ?_, o2, o3, gd.new hin (by omega) (by rw [setA_s, aU_s]) (fun j hj => by rw [setA_n hj]; rfl), (e3.mo (by simp)).t2 o4 (by simp), (e4.l (l := [5]) (by simp)).tr o6 (by simp) (by simp)⟩
    ((try simp only [li_0, li_1, li_2, li_3, li_4, li_5, li_6, li_7, li_8, li_9, li_10, li_11, li_12, li_13, li_14, li_15, li_16, li_17, li_18, li_19, li_20, li_30, li_31, li_32, li_33, li_40, li_41, li_42, li_43, li_45, li_48, li_56, li_57, li_59, li_60, li_61, li_64, li_91, li_97, li_99, li_100, li_122, li_150, li_160, li_200, li_201, li_255, li_300, li_303, li_304, li_305, li_306, li_312, li_400, li_500, li_999, li_1003, li_3099, li_99999, li_100000, li_neg]); simp (disch := omega) only [ic_le_f, ic_le_t, ic_lt_f, ic_lt_t, ic_eq_f, ic_eq_t, ic_im, ic_mi, ic_mm_t, ic_mm_f, ic_mlt, ic_mle, ic_ilem, ic_iltm, ic_mmle_t, ic_mmle_f, pu_add, pu_mul, pu_in, pu_ck, pu_let, pu_cl, pu_cpok, pu_inr, Option.bind_some, ite_true, ite_false])
    rw [c.2.1.2.2 p hp]
    ((try simp only [li_0, li_1, li_2, li_3, li_4, li_5, li_6, li_7, li_8, li_9, li_10, li_11, li_12, li_13, li_14, li_15, li_16, li_17, li_18, li_19, li_20, li_30, li_31, li_32, li_33, li_40, li_41, li_42, li_43, li_45, li_48, li_56, li_57, li_59, li_60, li_61, li_64, li_91, li_97, li_99, li_100, li_122, li_150, li_160, li_200, li_201, li_255, li_300, li_303, li_304, li_305, li_306, li_312, li_400, li_500, li_999, li_1003, li_3099, li_99999, li_100000, li_neg]); simp (disch := omega) only [ic_le_f, ic_le_t, ic_lt_f, ic_lt_t, ic_eq_f, ic_eq_t, ic_im, ic_mi, ic_mm_t, ic_mm_f, ic_mlt, ic_mle, ic_ilem, ic_iltm, ic_mmle_t, ic_mmle_f, pu_add, pu_mul, pu_in, pu_ck, pu_let, pu_cl, pu_cpok, pu_inr, Option.bind_some, ite_true, ite_false])
    rw [r1, q]
    ((try simp only [li_0, li_1, li_2, li_3, li_4, li_5, li_6, li_7, li_8, li_9, li_10, li_11, li_12, li_13, li_14, li_15, li_16, li_17, li_18, li_19, li_20, li_30, li_31, li_32, li_33, li_40, li_41, li_42, li_43, li_45, li_48, li_56, li_57, li_59, li_60, li_61, li_64, li_91, li_97, li_99, li_100, li_122, li_150, li_160, li_200, li_201, li_255, li_300, li_303, li_304, li_305, li_306, li_312, li_400, li_500, li_999, li_1003, li_3099, li_99999, li_100000, li_neg]); simp (disch := omega) only [ic_le_f, ic_le_t, ic_lt_f, ic_lt_t, ic_eq_f, ic_eq_t, ic_im, ic_mi, ic_mm_t, ic_mm_f, ic_mlt, ic_mle, ic_ilem, ic_iltm, ic_mmle_t, ic_mmle_f, pu_add, pu_mul, pu_in, pu_ck, pu_let, pu_cl, pu_cpok, pu_inr, Option.bind_some, ite_true, ite_false])
    rw [e1, Option.bind_some, o1]
    ((try simp only [b_X7_sorts_42, li_0, li_1, li_2, li_3, li_4, li_5, li_6, li_7, li_8, li_9, li_10, li_11, li_12, li_13, li_14, li_15, li_16, li_17, li_18, li_19, li_20, li_30, li_31, li_32, li_33, li_40, li_41, li_42, li_43, li_45, li_48, li_56, li_57, li_59, li_60, li_61, li_64, li_91, li_97, li_99, li_100, li_122, li_150, li_160, li_200, li_201, li_255, li_300, li_303, li_304, li_305, li_306, li_312, li_400, li_500, li_999, li_1003, li_3099, li_99999, li_100000, li_neg]); simp (disch := omega) only [b_X7_sorts_42, ic_le_f, ic_le_t, ic_lt_f, ic_lt_t, ic_eq_f, ic_eq_t, ic_im, ic_mi, ic_mm_t, ic_mm_f, ic_mlt, ic_mle, ic_ilem, ic_iltm, ic_mmle_t, ic_mmle_f, pu_add, pu_mul, pu_in, pu_ck, pu_let, pu_cl, pu_cpok, pu_inr, Option.bind_some, ite_true, ite_false])
    rw [plI_p]
  · rw [if_neg q]
    refine ⟨m, fi, go, ?_, c, rt, gd, qF.rf _ _, o36l.rf _ _⟩
    ((try simp only [li_0, li_1, li_2, li_3, li_4, li_5, li_6, li_7, li_8, li_9, li_10, li_11, li_12, li_13, li_14, li_15, li_16, li_17, li_18, li_19, li_20, li_30, li_31, li_32, li_33, li_40, li_41, li_42, li_43, li_45, li_48, li_56, li_57, li_59, li_60, li_61, li_64, li_91, li_97, li_99, li_100, li_122, li_150, li_160, li_200, li_201, li_255, li_300, li_303, li_304, li_305, li_306, li_312, li_400, li_500, li_999, li_1003, li_3099, li_99999, li_100000, li_neg]); simp (disch := omega) only [ic_le_f, ic_le_t, ic_lt_f, ic_lt_t, ic_eq_f, ic_eq_t, ic_im, ic_mi, ic_mm_t, ic_mm_f, ic_mlt, ic_mle, ic_ilem, ic_iltm, ic_mmle_t, ic_mmle_f, pu_add, pu_mul, pu_in, pu_ck, pu_let, pu_cl, pu_cpok, pu_inr, Option.bind_some, ite_true, ite_false])
    rw [c.2.1.2.2 p hp]
    ((try simp only [li_0, li_1, li_2, li_3, li_4, li_5, li_6, li_7, li_8, li_9, li_10, li_11, li_12, li_13, li_14, li_15, li_16, li_17, li_18, li_19, li_20, li_30, li_31, li_32, li_33, li_40, li_41, li_42, li_43, li_45, li_48, li_56, li_57, li_59, li_60, li_61, li_64, li_91, li_97, li_99, li_100, li_122, li_150, li_160, li_200, li_201, li_255, li_300, li_303, li_304, li_305, li_306, li_312, li_400, li_500, li_999, li_1003, li_3099, li_99999, li_100000, li_neg]); simp (disch := omega) only [ic_le_f, ic_le_t, ic_lt_f, ic_lt_t, ic_eq_f, ic_eq_t, ic_im, ic_mi, ic_mm_t, ic_mm_f, ic_mlt, ic_mle, ic_ilem, ic_iltm, ic_mmle_t, ic_mmle_f, pu_add, pu_mul, pu_in, pu_ck, pu_let, pu_cl, pu_cpok, pu_inr, Option.bind_some, ite_true, ite_false])
    rw [r1]
    ((try simp only [b_X7_sorts_42, li_0, li_1, li_2, li_3, li_4, li_5, li_6, li_7, li_8, li_9, li_10, li_11, li_12, li_13, li_14, li_15, li_16, li_17, li_18, li_19, li_20, li_30, li_31, li_32, li_33, li_40, li_41, li_42, li_43, li_45, li_48, li_56, li_57, li_59, li_60, li_61, li_64, li_91, li_97, li_99, li_100, li_122, li_150, li_160, li_200, li_201, li_255, li_300, li_303, li_304, li_305, li_306, li_312, li_400, li_500, li_999, li_1003, li_3099, li_99999, li_100000, li_neg]); simp (disch := omega) only [b_X7_sorts_42, ic_le_f, ic_le_t, ic_lt_f, ic_lt_t, ic_eq_f, ic_eq_t, ic_im, ic_mi, ic_mm_t, ic_mm_f, ic_mlt, ic_mle, ic_ilem, ic_iltm, ic_mmle_t, ic_mmle_f, pu_add, pu_mul, pu_in, pu_ck, pu_let, pu_cl, pu_cpok, pu_inr, Option.bind_some, ite_true, ite_false])
    rw [plI_p]
theorem r7sorts {m : qaM} {w tf ou fi0 fi : Nat} {go0 go : Nat → Nat} {A0 : Nat → AL} {H : HS} (c : MH m H) (hv : HV H) (rt : RT m tf ou fi go) (gd : GD H.n w fi0 A0 go0 H.A fi go) (hfi : fi0 ≤ w) (hww : w < 2 ^ 20) :
    ∃ m2 fi2 go2, f_X7_sorts m (nI w) = some m2 ∧ MH m2 (drp H) ∧ RT m2 tf ou fi2 go2 ∧ GD H.n w fi0 A0 go0 (drp H).A fi2 go2 ∧ qF [36, 39, 40, 56] m m2 ∧ o36l [5, 39] m m2 := by
  have h8 := c.2.1.2.1
  obtain ⟨r, h1, fi2, go2, h2⟩ := lp_at (f := fun s : qaM × Int32 => b_X7_sorts_7 s.1 (nI w) s.2) (fun j s => j ≤ H.P.length ∧ ∃ X fi2 go2, s.2 = plI (H.P.length - j) ∧ MH s.1 X ∧ HV X ∧ H.P.length - j ≤ X.P.length ∧ drN (H.P.length - j) X = drp H ∧ X.n = H.n
      ∧ RT s.1 tf ou fi2 go2 ∧ GD H.n w fi0 A0 go0 X.A fi2 go2 ∧ qF [36, 39, 40, 56] m s.1 ∧ o36l [5, 39] m s.1)
    (fun r => ∃ fi2 go2, MH r (drp H) ∧ RT r tf ou fi2 go2 ∧ GD H.n w fi0 A0 go0 (drp H).A fi2 go2 ∧ qF [36, 39, 40, 56] m r ∧ o36l [5, 39] m r) H.P.length (s := (m, plI H.P.length)) ⟨Nat.zero_le _, H, fi, go, rfl, c, hv, Nat.le_refl _, rfl, rfl, rt, gd, qF.rf _ _, o36l.rf _ _⟩ (by omega) (by
    rintro j ⟨x, k⟩ hj ⟨_, X, fi2, go2, hk, k1, k2, k3, k4, kn, k5, k6, k7, k8⟩
    have hk2 : k = plI (H.P.length - j) := hk
    subst hk2
    rcases Nat.lt_or_ge j H.P.length with q | q
    · obtain ⟨p, hp⟩ : ∃ p, H.P.length - j = p + 1 := ⟨H.P.length - j - 1, by omega⟩
      have hp2 : H.P.length - (j + 1) = p := by omega
      rw [hp] at k3 k4
      rw [← kn] at k6
      obtain ⟨x2, fi3, go3, g1, g2, g3, g4, g5, g6⟩ := r7srS k1 k2 k5 k6 (p := p) (by omega) hfi hww
      have g7 := drS_V k2 (p := p) (by omega)
      rw [kn] at g4
      refine Or.inl ⟨(x2, plI p), ?_, q, q, drS p X, fi3, go3, by rw [hp2], g2, g7.1, by rw [hp2]; exact g7.2.2, ?_, g7.2.1.trans kn, g3, g4, k7.t2 g5 (fun _ z => z), k8.tr g6 (fun _ z => z) (fun _ z => z)⟩
      · show b_X7_sorts_7 x (nI w) (plI (H.P.length - j)) = _
        rw [hp, plI_s]
        exact g1
      · rw [hp2]
        exact k4
    · have hz : H.P.length - j = 0 := by omega
      rw [hz] at k4
      have k4' : X = drp H := k4
      refine Or.inr ⟨x, ?_, fi2, go2, by rw [← k4']; exact k1, k5, by rw [← k4']; exact k6, k7, k8⟩
      show b_X7_sorts_7 x (nI w) (plI (H.P.length - j)) = _
      unfold b_X7_sorts_7
      rw [hz, plI_0]
      ((try simp only [li_0, li_1, li_2, li_3, li_4, li_5, li_6, li_7, li_8, li_9, li_10, li_11, li_12, li_13, li_14, li_15, li_16, li_17, li_18, li_19, li_20, li_30, li_31, li_32, li_33, li_40, li_41, li_42, li_43, li_45, li_48, li_56, li_57, li_59, li_60, li_61, li_64, li_91, li_97, li_99, li_100, li_122, li_150, li_160, li_200, li_201, li_255, li_300, li_303, li_304, li_305, li_306, li_312, li_400, li_500, li_999, li_1003, li_3099, li_99999, li_100000, li_neg]); simp (disch := omega) only [ic_le_f, ic_le_t, ic_lt_f, ic_lt_t, ic_eq_f, ic_eq_t, ic_im, ic_mi, ic_mm_t, ic_mm_f, ic_mlt, ic_mle, ic_ilem, ic_iltm, ic_mmle_t, ic_mmle_f, pu_add, pu_mul, pu_in, pu_ck, pu_let, pu_cl, pu_cpok, pu_inr, Option.bind_some, ite_true, ite_false]))
  refine ⟨r, fi2, go2, ?_, h2⟩
  unfold f_X7_sorts
  rw [c.2.1.1]
  simp only [li_0, li_1, li_2, li_3, li_4, li_5, li_6, li_7, li_8, li_9, li_10, li_11, li_12, li_13, li_14, li_15, li_16, li_17, li_18, li_19, li_20, li_30, li_31, li_32, li_33, li_40, li_41, li_42, li_43, li_45, li_48, li_56, li_57, li_59, li_60, li_61, li_64, li_91, li_97, li_99, li_100, li_122, li_150, li_160, li_200, li_201, li_255, li_300, li_303, li_304, li_305, li_306, li_312, li_400, li_500, li_999, li_1003, li_3099, li_99999, li_100000, li_neg]
  rw [plI_m, pu_let]
  exact h1
theorem cb_7 (H : HS) (i : Nat) : (cb H).A i 7 = H.A i 7 := by
  refine itN_ind (fun _ (x : HS) => x.A i 7 = H.A i 7) H.n rfl (fun j x _ q => ?_) H.n (Nat.le_refl _)
  rw [← q]
  have hs : ∀ (X : HS) (v : Nat), (X.setA j (aU (X.A j) 6 v)).A i 7 = X.A i 7 := fun X v => by
    by_cases z : i = j
    · rw [z, setA_s]
      rfl
    · rw [setA_n z]
  unfold cbS
  repeat' split
  · rfl
  · rfl
  · exact hs x 0
  · exact hs x _
theorem tak_A (wan how : Nat) (H : HS) : (tak wan how H).1.A = H.A := by
  refine itN_ind (fun _ (x : HS × Nat × Nat) => x.1.A = H.A) wan rfl (fun j x _ q => ?_) wan (Nat.le_refl _)
  unfold tkS
  split
  · exact q
  · exact q
theorem yel_7 (S : SF) (H : HS) (i : Nat) : (yel S H).A i 7 = H.A i 7 := by
  refine itN_ind (fun _ (x : HS) => x.A i 7 = H.A i 7) H.P.length rfl (fun j x _ q => ?_) H.P.length (Nat.le_refl _)
  rw [← q]
  unfold yeS
  by_cases z : i = x.P.getD j 0
  · rw [z, setA_s]
    rfl
  · rw [setA_n z]
theorem r7week {m : qaM} {N wan how w tf ou fi : Nat} {go : Nat → Nat} {H : HS} {S : SF} (c : MH m H) (hv : HV H) (rt : RT m tf ou fi go) (t : TXr m N S) (sv : SV S) (hN : H.lw < N) (hfi : fi ≤ w) (hww : w < 2 ^ 20) (hw : wan ≤ 8) (hho : how ≤ 3) :
    ∃ m2 go2, f_X7_weekBy m (nI w) (nI wan) (nI how) = some m2 ∧ MH m2 (weekA S wan how H).1
      ∧ RT m2 (tf + (weekA S wan how H).2.1) (ou ||| (weekA S wan how H).2.2) (fiN fi w (lfH H.A H.n) (lfH (weekA S wan how H).1.A (weekA S wan how H).1.n)) go2
      ∧ (∀ i : Nat, i < H.n → go2 i = if (weekA S wan how H).1.A i 7 = 1 ∧ ¬ H.A i 7 = 1 then w + 1 else go i) ∧ qF [36, 39, 40, 54, 55, 56] m m2 ∧ o36l [5, 7, 37, 38, 39] m m2 := by
  have h8 := hv.n8
  obtain ⟨m1, a1, a2, a3, a4⟩ := r7cb c hv
  have va := cb_V hv
  have la : (cb H).lw = H.lw := itN_lw cbS_lw _ _
  have rt1 := rt.F a3 (by decide) (a4.l (l := [5]) (by simp)) (by simp) (by simp) (by simp)
  obtain ⟨m2, b1, b2, b3, b4, b5⟩ := r7takesSo (how := how) (wan := wan) a2 va.1 hho hw rt1.1
  obtain ⟨T, hT⟩ : ∃ T, T = tak wan how (cb H) := ⟨_, rfl⟩
  have hTA : T.1.A = (cb H).A := by rw [hT]; exact tak_A _ _ _
  have vT := tak_V (wan := wan) (how := how) va.1
  have kT := (itN_K cbS_K H.n H).tr (tak_K wan how (cb H))
  have bT : T.2.2 < 2 ^ 8 := by
    rw [hT]
    refine (itN_ind (fun _ (x : HS × Nat × Nat) => HV x.1 ∧ WV x.1 x.2.2 0 ∧ x.2.2 < 2 ^ 8) wan ⟨va.1, (fun i _ hb => by
      have hb1 : (0 : Nat).testBit i = true := hb
      rw [Nat.zero_testBit] at hb1
      exact absurd hb1 (by decide)), show 0 < 2 ^ 8 by decide⟩ (fun j x _ q => ?_) wan (Nat.le_refl _)).2.2
    have h1 := tkS_V (how := how) (j := j) q.1 q.2.1
    exact ⟨h1.1, h1.2.1, tkS_lt q.1 q.2.2⟩
  rw [← hT] at b1 b2 b3 vT kT
  -- who was out
  have c3 := b2.T (qF.st m2 36 38 (nI (ou ||| T.2.2))) (by simp) (by simp) (by simp) (by simp) (by simp) (o36l.st _ _ _) (by simp) (by simp) (by simp) (by simp)
  have rt3 : RT (qa_st m2 36 38 (nI (ou ||| T.2.2))) (tf + T.2.1) (ou ||| T.2.2) fi go := by
    refine ⟨?_, ?_, ?_, fun i hi => ?_⟩
    · rw [st_s, up_n (by omega)]
      exact b3
    · rw [st_s, up_s]
    · rw [st_s, up_n (by omega), b5 39 (by decide)]
      exact rt1.2.2.1
    · rw [st_n (by omega), b4 56 (by decide)]
      exact rt1.2.2.2 i hi
  have f3 : qF [36, 39, 40] m (qa_st m2 36 38 (nI (ou ||| T.2.2))) := (a3.t2 b4 (by simp)).stl (by simp)
  have o3 : o36l [5, 37, 38] m (qa_st m2 36 38 (nI (ou ||| T.2.2))) := ((a4.l (l := [5]) (by simp)).tr b5 (l := [5, 37, 38]) (by simp) (by simp)).tr (o36l.st _ _ _) (fun _ z => z) (by simp)
  obtain ⟨m4, d1, d2, d3⟩ := r7lie c3 vT.1 vT.2.1 (t.F f3 (by decide) (by decide)) sv (by rw [kT.2.2]; exact hN)
  have vy := yel_V (S := S) vT.1 vT.2.1
  have rt4 := rt3.F d3 (by decide) (o36l.q (k := []) d3 (by decide)) (by simp) (by simp) (by simp)
  have f4 : qF [36, 39, 40, 54, 55, 56] m m4 := (f3.mo (by simp)).t2 d3 (by simp)
  have ky : HK H (yel S T.1) := kT.tr (itN_K (f := yeS S) (fun _ _ => ⟨rfl, rfl, rfl⟩) _ _)
  have gd4 : GD (yel S T.1).n w fi H.A go (yel S T.1).A fi go := (GD.rf _ w fi H.A go).same (fun i _ => by
    rw [yel_7, hTA, cb_7])
  obtain ⟨m5, fi5, go5, e1, e2, e3, e4, e5, e6⟩ := r7was d2 vy.1 vy.2.1 rt4 gd4 (t.F f4 (by decide) (by decide)) sv (by rw [ky.2.2]; exact hN) (by omega) hfi hww
  have vw := was_V (S := S) vy.1 vy.2.1
  have kw : HK H (was S T.2.2 (yel S T.1)) := ky.tr (itN_K (waS_K S _) _ _)
  rw [ky.1, ← kw.1] at e4
  obtain ⟨m6, fi6, go6, g1, g2, g3, g4, g5, g6⟩ := r7sorts e2 vw.1 e3 e4 hfi hww
  have kd : HK H (drp (was S T.2.2 (yel S T.1))) := kw.tr (drN_K _ _)
  have hW : weekA S wan how H = ((drp (was S T.2.2 (yel S T.1))).aged, T.2) := by
    rw [hT]
    rfl
  rw [hW]
  have hwk : m6 36 7 = nI (drp (was S T.2.2 (yel S T.1))).wk := g2.2.2.2.2.1
  refine ⟨qa_st m6 36 7 (nI ((drp (was S T.2.2 (yel S T.1))).wk + 1)), go6, ?_, ?_, ?_, ?_, ?_, ?_⟩
  · unfold f_X7_weekBy
    rw [a1, Option.bind_some, b1, Option.bind_some]
    simp only [li_0, li_1, li_2, li_3, li_4, li_5, li_6, li_7, li_8, li_9, li_10, li_11, li_12, li_13, li_14, li_15, li_16, li_17, li_18, li_19, li_20, li_30, li_31, li_32, li_33, li_40, li_41, li_42, li_43, li_45, li_48, li_56, li_57, li_59, li_60, li_61, li_64, li_91, li_97, li_99, li_100, li_122, li_150, li_160, li_200, li_201, li_255, li_300, li_303, li_304, li_305, li_306, li_312, li_400, li_500, li_999, li_1003, li_3099, li_99999, li_100000, li_neg]
    have h38 : m2 36 38 = nI ou := by
      rw [b5 38 (by decide)]
      exact rt1.2.1
    rw [h38, pu_or, pu_let, d1, Option.bind_some, e1, Option.bind_some, g1, Option.bind_some, pu_let, hwk, pu_add]
  · refine ⟨g2.1.F (qF.st _ _ _ _) (by simp) (by simp) (by simp), ?_, ?_⟩
    · have h2 := g2.2.1
      unfold RP at h2 ⊢
      rw [st_s, up_n (by omega), st_n (by omega)]
      exact h2
    · refine ⟨?_, ?_, ?_, ?_⟩
      · rw [st_n (by omega)]
        exact g2.2.2.1
      · rw [st_s, up_n (by omega)]
        exact g2.2.2.2.1
      · rw [st_s, up_s]
        rfl
      · rw [st_s, up_n (by omega)]
        exact g2.2.2.2.2.2
  · have hfe : fi6 = fiN fi w (lfH H.A H.n) (lfH (drp (was S T.2.2 (yel S T.1))).aged.A (drp (was S T.2.2 (yel S T.1))).aged.n) := by
      have h3 := g4.2.2.1
      rw [kw.1] at h3
      have hn : (drp (was S T.2.2 (yel S T.1))).aged.n = H.n := kd.1
      rw [hn]
      exact h3
    rw [← hfe]
    exact g3.F (qF.st _ _ _ _) (by simp) (o36l.st _ _ _) (by simp) (by simp) (by simp)
  · intro i hi
    have h4 := g4.2.2.2 i (by rw [kw.1]; exact hi)
    exact h4
  · exact ((f4.t2 e5 (fun _ z => z)).t2 g5 (by simp)).stl (by simp)
  · have o4 : o36l [5, 37, 38] m m4 := o3.tr (o36l.q (k := []) d3 (by decide)) (fun _ z => z) (by simp)
    have o5 : o36l [5, 37, 38, 39] m m5 := o4.tr e6 (by simp) (by simp)
    have o6 : o36l [5, 37, 38, 39] m m6 := o5.tr g6 (fun _ z => z) (by simp)
    exact o6.tr (o36l.st _ _ _) (by simp) (by simp)
