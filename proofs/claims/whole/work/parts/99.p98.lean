/-! PURE: the start holds -/
def H0s : HS := (0, fun _ => AL.z, [], fun k => if k = 0 then 2 else if k = 1 then 1 else 0, 0, 0)
def T0s (p : Nat) : List Nat := if p = 0 then [100010] else if p = 1 then [100001] else [100050]
def S0s : SF := fun _ p f => vlL f (T0s p)
theorem H0s_V : HV H0s := by
  refine ⟨Nat.zero_le _, fun _ => AV.z, List.nodup_nil, fun x hx => absurd hx List.not_mem_nil, fun x hx => absurd hx List.not_mem_nil, fun _ _ => rfl, ?_⟩
  decide
theorem H0s_C : CH m1S 8 H0s := by
  refine ⟨⟨m1S_9, Nat.zero_le _, fun i k hi hk => ?_⟩, ⟨m1S_11, Nat.zero_le _, fun j hj => absurd hj (Nat.not_lt_zero _)⟩, m1S_13, m1S_83, m1S_84⟩
  rw [m1S_10 (i * 7 + k) (by omega)]
  exact (if_neg (fun q => absurd (show AL.z 7 = 1 from q.2) (by decide))).symm
theorem H0s_M : MH m1S H0s :=
  ⟨⟨fun i hi => absurd hi (Nat.not_lt_zero _), fun i hi => absurd hi (Nat.not_lt_zero _), fun i k hi => absurd hi (Nat.not_lt_zero _)⟩, ⟨m1S_365, Nat.zero_le _, fun j hj => absurd hj (Nat.not_lt_zero _)⟩, m1S_41, m1S_360, m1S_367, m1S_3613⟩
theorem T0s_X : TXA m1S 0 T0s := by
  refine ⟨by decide, fun p k hp hk => ?_, fun p hp => ?_, fun p hp => ?_, fun p hp => ?_⟩
  · have h3 : p = 0 ∨ p = 1 ∨ p = 2 := by omega
    rcases h3 with rfl | rfl | rfl
    · have hk0 : k = 0 := Nat.lt_one_iff.mp hk
      subst hk0
      exact ⟨Or.inl (by decide), m1S_2a, m1S_43a⟩
    · have hk0 : k = 0 := Nat.lt_one_iff.mp hk
      subst hk0
      exact ⟨Or.inl (by decide), m1S_2b, m1S_43b⟩
    · have hk0 : k = 0 := Nat.lt_one_iff.mp hk
      subst hk0
      exact ⟨Or.inl (by decide), m1S_2c, m1S_43c⟩
  · have h3 : p = 0 ∨ p = 1 ∨ p = 2 := by omega
    rcases h3 with rfl | rfl | rfl
    · exact m1S_3 0 (by omega)
    · exact m1S_3 1 (by omega)
    · exact m1S_3 2 (by omega)
  · have h3 : p = 0 ∨ p = 1 ∨ p = 2 ∨ p = 3 := by omega
    rcases h3 with rfl | rfl | rfl | rfl
    · exact m1S_44 0 (by omega)
    · exact m1S_44 1 (by omega)
    · exact m1S_44 2 (by omega)
    · exact m1S_44 3 (by omega)
  · have h3 : p = 0 ∨ p = 1 ∨ p = 2 := by omega
    rcases h3 with rfl | rfl | rfl
    · decide
    · decide
    · decide
theorem S0s_X : TXX m1S 1 S0s := by
  refine ⟨m1S_52, fun _ => T0s, fun l hl => ?_⟩
  have hl0 : l = 0 := Nat.lt_one_iff.mp hl
  subst hl0
  exact ⟨T0s_X, fun p f hp => rfl⟩
theorem S0s_T : TT m1S 1 S0s := ⟨m1S_1, m1S_3612, ⟨Nat.le_refl _, S0s_X⟩, by decide, S0s_X.c (by decide), S0s_X.r (by decide), fun l p f => clN_le _⟩
theorem m1S_P : TP m1S := ⟨0, Nat.zero_le _, m1S_6, m1S_369, fun k hk => absurd hk (Nat.not_lt_zero _)⟩
theorem m1S_H : SH m1S := by
  refine ⟨fun s hs => ⟨Or.inl (m1S_33 s hs), ?_, 0, Nat.zero_le _, m1S_34 s hs, m1S_49 s hs⟩, fun k hk => ?_⟩
  · rw [m1S_48 s hs, m1S_33 s hs]
  · rw [m1S_50 k hk, m1S_35 k hk]
theorem m1S_N : NT m1S H0s := ⟨0, 0, 0, 0, ⟨m1S_85, m1S_86, m1S_87, m1S_88⟩, Nat.le_refl _, Nat.zero_le _⟩
theorem m1S_R : Rel m1S := ⟨H0s, 1, S0s, H0s_C, H0s_M, H0s_V, by decide, Nat.zero_le _, S0s_T, m1S_P, Or.inl ⟨m1S_0, m1S_3614⟩, m1S_H, m1S_N⟩
