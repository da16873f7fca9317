/-! PURE: a whole text's reading, on both sides -/
theorem R9.st36 {N : Nat} {m x : qaM} (h : R9 N m x) {k : Nat} {v : Int32} (hk : (26 ≤ k ∧ k ≤ 29) ∨ (32 ≤ k ∧ k ≤ 34)) : R9 N m (qa_st x 36 k v) := ⟨h.1.stl (by simp), fun j h3 h4 => by rw [st_s, up_n (by omega)]; exact h.2.1 j h3 h4, fun j hj => by rw [st_n (by omega)]; exact h.2.2.1 j hj, fun j hj => by rw [st_n (by omega)]; exact h.2.2.2 j hj⟩
/-- the reference's memory after a text: v texts -/
def Y9 (N : Nat) (m y : qaM) (v : Nat) : Prop := qF [36, 43, 44, 53] m y ∧ (∀ k : Nat, k ≠ 9 → k ≠ 12 → (k < 26 ∨ 29 < k) → (k < 32 ∨ 34 < k) → y 36 k = m 36 k) ∧ y 36 9 = nI 0 ∧ y 36 12 = nI v ∧ (∀ k : Nat, (k < 200 * N ∨ 200 * N + 200 ≤ k) → y 43 k = m 43 k) ∧ ∀ k : Nat, (k < 4 * N ∨ 4 * N + 4 ≤ k) → y 44 k = m 44 k
def TxC (m x : qaM) (N : Nat) (W : Nat → List Nat) : Prop := C9 N m x ∧ (∀ i : Nat, i < (oW W 3).length → x 2 (160 * N + i) = en6 ((oW W 3).getD i 0)) ∧ ∀ j : Nat, j < 3 → x 3 (3 * N + j) = nI (oW W (j + 1)).length
def TxR (m y : qaM) (N : Nat) (W : Nat → List Nat) : Prop := Y9 N m y (N + 1) ∧ otM y N (oW W 3) ∧ ∀ j : Nat, j < 4 → y 44 (4 * N + j) = nI (oW W j).length
theorem r122 {m y : qaM} {N P : Nat} (r : R9 N m y) (h12 : y 36 12 = nI N) (hN : N < 6) (h27 : y 36 27 = nI P) : ∃ y2, b_X7_text_122 y (nI 0) = some (nM 100 - nI P, y2) ∧ Y9 N m y2 N := by
  have g27 : (qa_st (qa_st y 44 (4 * N + 3) (y 36 34)) 36 9 (nI 0)) 36 27 = nI P := by rw [st_s, up_n (by omega), st_n (by omega), h27]
  refine ⟨qa_st (qa_st y 44 (4 * N + 3) (y 36 34)) 36 9 (nI 0), ?_, (r.1.stl (by simp)).stl (by simp), ?_, ?_, ?_, ?_, ?_⟩
  · unfold b_X7_text_122
    simp only [li_0, li_1, li_2, li_3, li_4, li_5, li_6, li_7, li_8, li_9, li_10, li_11, li_12, li_13, li_14, li_15, li_16, li_17, li_18, li_19, li_20, li_30, li_31, li_32, li_33, li_40, li_41, li_42, li_43, li_45, li_48, li_56, li_57, li_59, li_60, li_61, li_64, li_91, li_97, li_99, li_100, li_122, li_150, li_160, li_200, li_201, li_255, li_300, li_303, li_304, li_305, li_306, li_312, li_400, li_500, li_999, li_1003, li_3099, li_99999, li_100000, li_1000000, li_65, li_23, li_neg]
    rw [h12, pu_mul, pu_add, pu_in (by omega) (by omega), pu_ck, pu_cl (by omega), pu_let, pu_let, if_pos trivial, g27]
  · intro k k9 k12 h1 h2
    rw [st_s, up_n k9, st_n (by omega)]
    exact r.2.1 k h1 h2
  · rw [st_s, up_s]
  · rw [st_s, up_n (by omega), st_n (by omega), h12]
  · intro k hk
    rw [st_n (by omega), st_n (by omega)]
    exact r.2.2.1 k hk
  · intro k hk
    rw [st_n (by omega), st_s, up_n (by omega)]
    exact r.2.2.2 k hk
theorem kparts {m mr : qaM} {B : Nat → Nat} {L N : Nat} (t : TPb m B L) (tr : TPR mr B L) (h52 : ∀ k : Nat, k < 96 → mr 52 k = nI (wtb.getD k 0)) (hm : m 1 0 = nI N) (h12 : mr 36 12 = nI N) (hN : N < 6) : ∀ (d i f1 f2 p : Nat) (x y : qaM) (W : Nat → List Nat), i + d = 3 → d < f1 → d + 1 < f2 → PTc m x B L N i p W → PTr mr y N i p W → PTw L i p W →
    (∃ x2 y2 p2 W2, qa_lp (fun s : qaM × Int32 => b_X4_readsInto_11 s.1 s.2) f1 (x, nI i) = some (nM 1, x2) ∧ qa_lp (fun s : qaM × Int32 × Int32 => b_X7_text_26 s.1 s.2.1 s.2.2) f2 (y, nI 1, nI i) = some (nI N, y2) ∧ TxC m x2 N W2 ∧ TxR mr y2 N W2 ∧ PTw L 3 p2 W2)
    ∨ (∃ x2 y2 P, P ≤ L ∧ qa_lp (fun s : qaM × Int32 => b_X4_readsInto_11 s.1 s.2) f1 (x, nI i) = some (nI P, x2) ∧ qa_lp (fun s : qaM × Int32 × Int32 => b_X7_text_26 s.1 s.2.1 s.2.2) f2 (y, nI 1, nI i) = some (nM 100 - nI P, y2) ∧ C9 N m x2 ∧ Y9 N mr y2 N) := by
  have hL := t.2.2.1
  intro d
  induction d with
  | zero =>
    intro i f1 f2 p x y W hi hf1 hf2 pc pr pw
    have hi3 : i = 3 := by omega
    subst hi3
    obtain ⟨f1, rfl⟩ : ∃ fu, f1 = fu + 1 := ⟨f1 - 1, by omega⟩
    obtain ⟨f2, rfl⟩ : ∃ fu, f2 = fu + 1 := ⟨f2 - 1, by omega⟩
    obtain ⟨c1, c2, c3, c4⟩ := pc
    obtain ⟨r1, r2, r3, r4, r5⟩ := pr
    have pw1 : p ≤ L := pw.1
    obtain ⟨_, _, e3, _, _⟩ := tkE_ok B L p pw1
    have hkc := tknd_c B L p
    have y52 : ∀ k : Nat, k < 96 → y 52 k = nI (wtb.getD k 0) := fun k hk => by rw [r1.1 52 (by decide)]; exact h52 k hk
    obtain ⟨y3, g1, g2, g3, g4, g5, g6⟩ := rgo (tr.r9 r1) y52 pw1 r2
    have z12 : y3 36 12 = nI N := by rw [g2.2 12 (by omega), r1.2.1 12 (by omega) (by omega), h12]
    have z34 : y3 36 34 = nI (oW W 3).length := by rw [g2.2 34 (by omega), r3]
    have r3b : R9 N mr y3 := r1.r8 ((r8F.rf N y).r7 g2)
    have hx : b_X4_readsInto_11 x (nI 3) = qa_inr (if nI (tknd B L p) = nI 0 then some (nM 1, x) else some (nI (plK B L p), x)) := by
      unfold b_X4_readsInto_11 b_X4_readsInto_75
      simp only [li_0, li_1, li_2, li_3, li_4, li_5, li_6, li_7, li_8, li_9, li_10, li_11, li_12, li_13, li_14, li_15, li_16, li_17, li_18, li_19, li_20, li_30, li_31, li_32, li_33, li_40, li_41, li_42, li_43, li_45, li_48, li_56, li_57, li_59, li_60, li_61, li_64, li_91, li_97, li_99, li_100, li_122, li_150, li_160, li_200, li_201, li_255, li_300, li_303, li_304, li_305, li_306, li_312, li_400, li_500, li_999, li_1003, li_3099, li_99999, li_100000, li_1000000, li_65, li_23, li_neg]
      rw [ic_le_t (by omega) (by omega), c2.2.2.1, c2.1]
    have hy : b_X7_text_26 y (nI 1) (nI 3) = qa_inr (if rK (tknd B L p) = nI 0 then b_X7_text_122 y3 (nI 1) else b_X7_text_122 y3 (nI 0)) := by
      unfold b_X7_text_26 b_X7_text_101 b_X7_text_121
      simp only [li_0, li_1, li_2, li_3, li_4, li_5, li_6, li_7, li_8, li_9, li_10, li_11, li_12, li_13, li_14, li_15, li_16, li_17, li_18, li_19, li_20, li_30, li_31, li_32, li_33, li_40, li_41, li_42, li_43, li_45, li_48, li_56, li_57, li_59, li_60, li_61, li_64, li_91, li_97, li_99, li_100, li_122, li_150, li_160, li_200, li_201, li_255, li_300, li_303, li_304, li_305, li_306, li_312, li_400, li_500, li_999, li_1003, li_3099, li_99999, li_100000, li_1000000, li_65, li_23, li_neg]
      rw [ic_le_t (by omega) (by omega), if_neg n10, g1, Option.bind_some, g5]
    by_cases hk : tknd B L p = 0
    · have hrk : rK (tknd B L p) = nI 0 := by
        rw [hk]
        rfl
      have hy2 : ∃ y2, b_X7_text_122 y3 (nI 1) = some (nI N, y2) ∧ TxR mr y2 N W := by
        have g12 : (qa_st (qa_st y3 44 (4 * N + 3) (nI (oW W 3).length)) 36 9 (nI 0)) 36 12 = nI N := by rw [st_s, up_n (by omega), st_n (by omega), z12]
        have g13 : (qa_st (qa_st (qa_st y3 44 (4 * N + 3) (nI (oW W 3).length)) 36 9 (nI 0)) 36 12 (nI (N + 1))) 36 12 = nI (N + 1) := by rw [st_s, up_s]
        refine ⟨qa_st (qa_st (qa_st y3 44 (4 * N + 3) (nI (oW W 3).length)) 36 9 (nI 0)) 36 12 (nI (N + 1)), ?_, ⟨((r3b.1.stl (by simp)).stl (by simp)).stl (by simp), ?_, ?_, g13, ?_, ?_⟩, ?_, ?_⟩
        · unfold b_X7_text_122
          simp only [li_0, li_1, li_2, li_3, li_4, li_5, li_6, li_7, li_8, li_9, li_10, li_11, li_12, li_13, li_14, li_15, li_16, li_17, li_18, li_19, li_20, li_30, li_31, li_32, li_33, li_40, li_41, li_42, li_43, li_45, li_48, li_56, li_57, li_59, li_60, li_61, li_64, li_91, li_97, li_99, li_100, li_122, li_150, li_160, li_200, li_201, li_255, li_300, li_303, li_304, li_305, li_306, li_312, li_400, li_500, li_999, li_1003, li_3099, li_99999, li_100000, li_1000000, li_65, li_23, li_neg]
          rw [z12, pu_mul, pu_add, pu_in (by omega) (by omega), pu_ck, pu_cl (by omega), z34, pu_let, pu_let, if_neg n10, g12, pu_add, pu_let, g13, pu_sub (by omega)]
          rfl
        · intro k k9 k12 h1 h2
          rw [st_s, up_n k12, st_s, up_n k9, st_n (by omega)]
          exact r3b.2.1 k h1 h2
        · rw [st_s, up_n (by omega), st_s, up_s]
        · intro k hk
          rw [st_n (by omega), st_n (by omega), st_n (by omega)]
          exact r3b.2.2.1 k hk
        · intro k hk
          rw [st_n (by omega), st_n (by omega), st_s, up_n (by omega)]
          exact r3b.2.2.2 k hk
        · intro j hj
          rw [st_n (by omega), st_n (by omega), st_n (by omega), g2.1 43 (by decide)]
          exact r4 j hj
        · intro j hj
          rw [st_n (by omega), st_n (by omega), st_s]
          by_cases z : j = 3
          · rw [z, up_s]
          · rw [up_n (by omega), g2.1 44 (by decide)]
            exact r5 j (by omega)
      obtain ⟨y2, q1, q2⟩ := hy2
      refine Or.inl ⟨x, y2, p, W, ?_, ?_, ⟨c1, c3.2, c4⟩, q2, pw⟩
      · have hx2 : b_X4_readsInto_11 x (nI 3) = some (.inr (nM 1, x)) := by
          rw [hx, ic_eq_t hk]
          rfl
        rw [qa_lp, hx2]
      · have hy2 : b_X7_text_26 y (nI 1) (nI 3) = some (.inr (nI N, y2)) := by
          rw [hy, if_pos hrk, q1]
          rfl
        rw [qa_lp, hy2]
    · have ha1 : ∀ k : Nat, k < 312 → (k < 3 ∨ 40 ≤ k) → rK k = nI 0 → k = 0 := by decide +kernel
      obtain ⟨y2, q1, q2⟩ := r122 r3b z12 hN g4
      refine Or.inr ⟨x, y2, plK B L p, e3, ?_, ?_, c1, q2⟩
      · have hx2 : b_X4_readsInto_11 x (nI 3) = some (.inr (nI (plK B L p), x)) := by
          rw [hx, ic_eq_f hk (by omega) (by omega)]
          rfl
        rw [qa_lp, hx2]
      · have hy2 : b_X7_text_26 y (nI 1) (nI 3) = some (.inr (nM 100 - nI (plK B L p), y2)) := by
          rw [hy, if_neg (fun z => hk (ha1 _ (by omega) (by omega) z)), q1]
          rfl
        rw [qa_lp, hy2]
  | succ d ih =>
    intro i f1 f2 p x y W hi hf1 hf2 pc pr pw
    obtain ⟨f1, rfl⟩ : ∃ fu, f1 = fu + 1 := ⟨f1 - 1, by omega⟩
    obtain ⟨f2, rfl⟩ : ∃ fu, f2 = fu + 1 := ⟨f2 - 1, by omega⟩
    rcases kpart t tr h52 hm h12 hN (show i < 3 by omega) pc pr pw with ⟨x2, y2, p2, w, k1, k2, k3, k4, k5⟩ | ⟨x2, y2, P, k0, k1, k2, k3, k4, k5⟩
    · rcases ih (i + 1) f1 f2 p2 x2 y2 _ (by omega) (by omega) (by omega) k3 k4 k5 with ⟨x3, y3, p3, W3, l1, l2, l3⟩ | ⟨x3, y3, P, l0, l1, l2, l3⟩
      · refine Or.inl ⟨x3, y3, p3, W3, ?_, ?_, l3⟩
        · rw [qa_lp, k1]
          exact l1
        · rw [qa_lp, k2]
          exact l2
      · refine Or.inr ⟨x3, y3, P, l0, ?_, ?_, l3⟩
        · rw [qa_lp, k1]
          exact l1
        · rw [qa_lp, k2]
          exact l2
    · obtain ⟨f2, rfl⟩ : ∃ fu, f2 = fu + 1 := ⟨f2 - 1, by omega⟩
      have z12 : y2 36 12 = nI N := by rw [k4.2.1 12 (by omega) (by omega), h12]
      obtain ⟨y3, q1, q2⟩ := r122 k4 z12 hN k5
      have h26 : b_X7_text_26 y2 (nI 0) (nI (i + 1)) = qa_inr (b_X7_text_122 y2 (nI 0)) := by
        unfold b_X7_text_26 b_X7_text_101
        simp only [li_0, li_1, li_2, li_3, li_4, li_5, li_6, li_7, li_8, li_9, li_10, li_11, li_12, li_13, li_14, li_15, li_16, li_17, li_18, li_19, li_20, li_30, li_31, li_32, li_33, li_40, li_41, li_42, li_43, li_45, li_48, li_56, li_57, li_59, li_60, li_61, li_64, li_91, li_97, li_99, li_100, li_122, li_150, li_160, li_200, li_201, li_255, li_300, li_303, li_304, li_305, li_306, li_312, li_400, li_500, li_999, li_1003, li_3099, li_99999, li_100000, li_1000000, li_65, li_23, li_neg]
        rw [if_pos trivial, if_pos trivial]
        split <;> rfl
      refine Or.inr ⟨x2, y3, P, k0, ?_, ?_, k2, q2⟩
      · rw [qa_lp, k1]
      · rw [qa_lp, k3]
        show qa_lp _ (f2 + 1) (y2, nI 0, nI (i + 1)) = _
        rw [qa_lp, h26, q1]
        rfl
