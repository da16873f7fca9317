/-! PURE: qp_feed -/
theorem KF.stp {m x : qaM} {B : Nat → Nat} {L n t : Nat} (hn : n ≤ 5) (hL : L + n ≤ 160) (ht : 1 ≤ t) (ht5 : t ≤ 5) (h : KF m x B L (if n ≤ t then n else t)) : ∃ x2, (∀ F : qaM → Option (Int32 × qaM), (if nI n ≤ nI t then F x else Option.bind (f_X4_adds x (nI (B (L + t)))) F) = F x2) ∧ KF m x2 B L (if n ≤ t + 1 then n else t + 1) := by
  by_cases z : n ≤ t
  · rw [if_pos z] at h
    exact ⟨x, fun F => ic_le_t z (by omega), by rw [if_pos (by omega)]; exact h⟩
  · rw [if_neg z] at h
    obtain ⟨x2, h1, h2⟩ := h.add (by omega)
    refine ⟨x2, fun F => ?_, ?_⟩
    · rw [ic_le_f (by omega) (by omega), h1, Option.bind_some]
    · by_cases y : n ≤ t + 1
      · rw [if_pos y, show n = t + 1 by omega]
        exact h2
      · rw [if_neg y]
        exact h2
def fdB (B : Nat → Nat) (L b2 b3 b4 b5 b6 : Nat) (k : Nat) : Nat := if k < L then B k else if k = L then b2 else if k = L + 1 then b3 else if k = L + 2 then b4 else if k = L + 3 then b5 else b6
