/-! PURE: the call text -/
theorem KK.up {m : qaM} {H : HS} {N N2 : Nat} (h : KK m H N) (hn : N ≤ N2) : KK m H N2 := by
  rcases h with h | ⟨a, b, K, c, d, e, f, g⟩
  · exact Or.inl h
  · exact Or.inr ⟨a, b, K, c, d, e, by omega, g⟩
theorem oW_len (W : Nat → List Nat) : ∀ i : Nat, (oW W i).length = eT W i := by
  intro i
  induction i with
  | zero => rfl
  | succ i ih =>
    show (oW W i ++ W i).length = eT W i + (W i).length
    rw [List.length_append, ih]
theorem oW_get (W : Nat → List Nat) {p k : Nat} (hk : k < (W p).length) : ∀ d : Nat, (oW W (p + 1 + d)).getD (eT W p + k) 0 = (W p).getD k 0 ∧ eT W p + k < (oW W (p + 1 + d)).length := by
  intro d
  induction d with
  | zero =>
    have h1 : oW W (p + 1 + 0) = oW W p ++ W p := rfl
    rw [h1]
    refine ⟨?_, by rw [List.length_append, oW_len]; omega⟩
    rw [List.getD_eq_getElem?_getD, List.getElem?_append_right (by rw [oW_len]; omega), oW_len, Nat.add_sub_cancel_left, ← List.getD_eq_getElem?_getD]
  | succ d ih =>
    have h1 : oW W (p + 1 + (d + 1)) = oW W (p + 1 + d) ++ W (p + 1 + d) := rfl
    rw [h1]
    refine ⟨?_, by rw [List.length_append]; omega⟩
    rw [List.getD_eq_getElem?_getD, List.getElem?_append_left ih.2, ← List.getD_eq_getElem?_getD]
    exact ih.1
/-- old texts stand, the new one too -/
theorem TXX.new {m z : qaM} {N L p2 : Nat} {S : SF} {W : Nat → List Nat} (h : TXX m N S) (hL : L ≤ 160) (e52 : z 52 = m 52) (e2 : ∀ k : Nat, k < 160 * N → z 2 k = m 2 k) (e3 : ∀ k : Nat, k < 3 * N → z 3 k = m 3 k) (e43 : ∀ k : Nat, k < 200 * N → z 43 k = m 43 k) (e44 : ∀ k : Nat, k < 4 * N → z 44 k = m 44 k)
    (n2 : ∀ i : Nat, i < (oW W 3).length → z 2 (160 * N + i) = en6 ((oW W 3).getD i 0)) (n3 : ∀ j : Nat, j < 3 → z 3 (3 * N + j) = nI (oW W (j + 1)).length) (n43 : otM z N (oW W 3)) (n44 : ∀ j : Nat, j < 4 → z 44 (4 * N + j) = nI (oW W j).length) (pw : PTw L 3 p2 W) :
    TXX z (N + 1) (fun l p f => if l = N ∧ p < 3 then vlL f (W p) else S l p f) := by
  obtain ⟨h1, T, hT⟩ := h
  obtain ⟨w1, w2, w3⟩ := pw
  rw [oW_len] at w2
  refine ⟨by rw [e52]; exact h1, fun l => if l = N then W else T l, fun l hl => ?_⟩
  by_cases z1 : l = N
  · have ht : (if l = N then W else T l) = W := if_pos z1
    rw [z1] at ht
    rw [z1]
    show TXA z N (if N = N then W else T N) ∧ ∀ (p : Nat) (f : Nat → Int32), p < 3 → (if N = N ∧ p < 3 then vlL f (W p) else S N p f) = vlL f ((if N = N then W else T N) p)
    rw [ht]
    refine ⟨⟨by omega, fun p k hp hk => ?_, fun p hp => ?_, fun p hp => ?_, fun p hp => (w3 p hp).2⟩, fun p f hp => if_pos ⟨rfl, hp⟩⟩
    · obtain ⟨g1, g2⟩ := oW_get W hk (2 - p)
      rw [show p + 1 + (2 - p) = 3 by omega] at g1 g2
      have hm : (W p).getD k 0 ∈ W p := by
        rw [List.getD_eq_getElem?_getD, List.getElem?_eq_getElem hk]
        exact List.getElem_mem hk
      refine ⟨(w3 p hp).1 _ hm, ?_, ?_⟩
      · rw [n2 _ g2, g1]
      · rw [n43 _ g2, g1]
    · rw [n3 p hp, oW_len]
    · rw [n44 p hp, oW_len]
  · have ht : (if l = N then W else T l) = T l := if_neg z1
    show TXA z l (if l = N then W else T l) ∧ ∀ (p : Nat) (f : Nat → Int32), p < 3 → (if l = N ∧ p < 3 then vlL f (W p) else S l p f) = vlL f ((if l = N then W else T l) p)
    rw [ht]
    obtain ⟨⟨t1, t2, t3, t4, t5⟩, hS⟩ := hT l (by omega)
    refine ⟨⟨t1, fun p k hp hk => ?_, fun p hp => ?_, fun p hp => ?_, t5⟩, fun p f hp => ?_⟩
    · obtain ⟨t6, t7⟩ := eT_le t1 hp
      obtain ⟨c1, c2, c3⟩ := t2 p k hp hk
      exact ⟨c1, by rw [e2 _ (by omega)]; exact c2, by rw [e43 _ (by omega)]; exact c3⟩
    · rw [e3 _ (by omega)]
      exact t3 p hp
    · rw [e44 _ (by omega)]
      exact t4 p hp
    · rw [if_neg (fun w => z1 w.1)]
      exact hS p f hp
