/-! PURE: the class's loops over signs of one rank -/
theorem levT_le {g : Nat} (h : g = 0 ∨ g = 1 ∨ g = 3 ∨ g = 4) : levT g ≤ levT (g + 1) := by
  rcases h with rfl | rfl | rfl | rfl <;> decide
theorem htL_3 {w w3 : List Nat} {v : Nat} (h1 : ∀ h : Nat, htL w h = some (h + 1)) (h2 : ∀ h : Nat, htL w3 h = some (h + 1)) (hv : 11 ≤ v ∧ v ≤ 18 ∧ v ≠ 13) : ∀ h : Nat, htL (w ++ (w3 ++ [v])) h = some (h + 1) := by
  intro h
  rw [htL_app, h1, Option.bind_some, htL_app, h2, Option.bind_some]
  show Option.bind (htS v (h + 1 + 1)) (htL []) = _
  have : htS v (h + 1 + 1) = some (h + 1) := by
    unfold htS
    rw [if_neg (by omega), if_neg (by omega), if_pos (by omega)]
    rfl
  rw [this]
  rfl
theorem kloop {m : qaM} {B : Nat → Nat} {L N g p a : Nat} {σ o : List Nat} {rec : Nat → qaM → Int32 → Option (Int32 × qaM)} {ok : Nat → Nat → Prop} {f : qaM × Int32 × Int32 → Option ((qaM × Int32 × Int32) ⊕ (Int32 × qaM))} (t : TPb m B L) (hm : m 1 0 = nI N) (hN : N < 6) (S : Nat → Prop) (R : RDk m B L N rec ok) (hg4 : g = 0 ∨ g = 1 ∨ g = 3 ∨ g = 4) (hok : ok (g + 1) (opN σ)) (hop : opN σ ≤ 5) (htr : trk (levT g) σ) (hpo : o.length ≤ p)
    (hS : ∀ k : Nat, S k → sgN k ≠ 0 ∧ rkN (sgN k) = levT g ∧ k ≠ 41 ∧ k ≠ 0 ∧ en6 (sgN k) = nM k)
    (hex : ∀ (k : Nat) (τ q : List Nat), exT (g + 1) k τ q → ¬ S k → exT g k τ q)
    (hz : ∀ (x : qaM) (j : Nat), j ≤ 160 → f (x, nI 0, nI j) = some (.inr (nI 0, x)))
    (hs : ∀ (x : qaM) (k j : Nat), j < 160 → k < 400 → x 6 4 = nI k → ¬ S k → f (x, nI 1, nI j) = some (.inr (nI 1, x)))
    (hgo : ∀ (x : qaM) (k j : Nat), j < 160 → S k → x 6 4 = nI k → ∀ (y z z2 : qaM) (b : Int32), f_X4_goesOn x = some y → rec (g + 1) y (nI (opN σ)) = some (b, z) → f_X5_adds z (nM k) = some z2 → f (x, nI 1, nI j) = some (.inl (z2, b, nI (j + 1)))) :
    ∀ (x0 : qaM) (b0 : Nat), C6 N m x0 → ((b0 = 1 ∧ SucC B L N (g + 1) p a σ o 0 x0) ∨ (b0 = 0 ∧ FaiC B L p a σ o x0)) → RSc m B L N g p a σ o (qa_lp f qa_F (x0, nI b0, nI 0)) := by
  have hL := t.2.2.1
  intro x0 b0 c0 hb0
  obtain ⟨r, g1, b, x2, g2, g3, g4⟩ := lp_at (f := f) (fun j s => s.2.2 = nI j ∧ C6 N m s.1 ∧ ∃ b : Nat, s.2.1 = nI b ∧ ((b = 1 ∧ ∃ p2 w τ q a2, p + j < p2 ∧ p2 ≤ L ∧ tkC s.1 B L p2 ∧ ouC s.1 N (o ++ w) ∧ w.length + p ≤ p2 ∧ (∀ c ∈ w, stC c) ∧ (∀ h : Nat, htL w h = some (h + 1)) ∧ Rch B L (p, 1, a, σ, o) (p2, 0, a2, τ, q) ∧ unw (levT g) τ q = unw (levT g) σ (o ++ w) ∧ exT (g + 1) (tknd B L p2) τ q) ∨ (b = 0 ∧ FaiC B L p a σ o s.1))) (fun r => ∃ b x2, r = (nI b, x2) ∧ C6 N m x2 ∧ ((b = 1 ∧ SucC B L N g p a σ o 0 x2) ∨ (b = 0 ∧ FaiC B L p a σ o x2))) 160 (s := (x0, nI b0, nI 0)) (by
    refine ⟨rfl, c0, b0, rfl, ?_⟩
    rcases hb0 with ⟨h1, p2, w, τ, q, a2, k1, k2, k3, k4, k5, k6, k7, k8, k9, k10⟩ | h1
    · exact Or.inl ⟨h1, p2, w, τ, q, a2, k1, k2, k3, k4, k5, k6, k7, k8, unw_of2 (levT_le hg4) k9, k10⟩
    · exact Or.inr h1) (by omega) (by
    rintro j ⟨x, vb, jj⟩ hj ⟨a1, a2, b, a3, a4⟩
    have a1b : jj = nI j := a1
    subst a1b
    have a3b : vb = nI b := a3
    subst a3b
    replace a2 : C6 N m x := a2
    rcases a4 with ⟨rfl, p2, w, τ, q, a2', k1, k2, k3, k4, k5, k6, k7, k8, k9, k10⟩ | ⟨rfl, k1⟩
    · replace k3 : tkC x B L p2 := k3
      replace k4 : ouC x N (o ++ w) := k4
      have hkc := tknd_c B L p2
      by_cases hk : S (tknd B L p2)
      · obtain ⟨s1, s2, s3, s4, s5⟩ := hS _ hk
        have hv := sgN_c s1
        obtain ⟨e1, e2, e3⟩ := tkE_lt (B := B) k2 s4
        obtain ⟨y, y1, y2, y3, y4⟩ := kgoC t a2 k3 k4 k2
        have hoc : opC (sgN (tknd B L p2)) = 0 := if_neg (by omega)
        have hopv : opN (sgN (tknd B L p2) :: σ) = opN σ := by
          show opC _ + opN σ = _
          omega
        have hlv : levT g ≠ 4 := by rcases hg4 with rfl | rfl | rfl | rfl <;> decide
        have hst : stpA B L (p2, 0, a2', τ, q) = some (tkE B L p2, 1, if 12 < sgN (tknd B L p2) then 0 else 1, sgN (tknd B L p2) :: σ, o ++ w) := by
          rw [stpA_0, if_neg s3, if_neg s1, if_neg (by rw [s2]; exact hlv), s2, k9, unw_lt htr]
        have hreach := k8.t (Rch.one hst)
        have hc1 : ∀ v : Nat, v < 19 → 11 ≤ v → rkN v = 1 → v = 11 := by decide
        have hc2 : ∀ v : Nat, v < 19 → 11 ≤ v → rkN v = 2 → v = 12 := by decide
        have hc3 : ∀ v : Nat, v < 19 → 11 ≤ v → 5 ≤ rkN v → 12 < v := by decide
        have v1 := hc1 (sgN (tknd B L p2)) (by omega) hv.1
        have v2 := hc2 (sgN (tknd B L p2)) (by omega) hv.1
        have v3 := hc3 (sgN (tknd B L p2)) (by omega) hv.1
        have hlw : (o ++ w).length = o.length + w.length := List.length_append
        have hpre : preT (g + 1) (tknd B L (tkE B L p2)) (if 12 < sgN (tknd B L p2) then 0 else 1) (sgN (tknd B L p2) :: σ) := by
          rcases hg4 with rfl | rfl | rfl | rfl
          · have r1 : rkN (sgN (tknd B L p2)) = 1 := s2
            refine ⟨fun z => by omega, fun _ => (show rkN _ < 2 by omega), fun z => by omega, fun z => by omega, fun z => by omega, fun _ => if_neg (by have := v1 r1; omega), fun z => by omega⟩
          · have r1 : rkN (sgN (tknd B L p2)) = 2 := s2
            refine ⟨fun z => by omega, fun z => by omega, fun _ => (show rkN _ < 4 by omega), fun z => by omega, fun z => by omega, fun _ => if_neg (by have := v2 r1; omega), fun z => by omega⟩
          · have r1 : rkN (sgN (tknd B L p2)) = 5 := s2
            refine ⟨fun z => by omega, fun z => by omega, fun z => by omega, fun z => by omega, fun _ => (show rkN _ < 6 by omega), fun z => by omega, fun _ z => ?_⟩
            rw [if_pos (v3 (by omega))] at z
            omega
          · have r1 : rkN (sgN (tknd B L p2)) = 6 := s2
            refine ⟨fun z => by omega, fun z => by omega, fun z => by omega, fun z => by omega, fun z => by omega, fun z => by omega, fun _ z => ?_⟩
            rw [if_pos (v3 (by omega))] at z
            omega
        obtain ⟨b1, z, z1, z2, z3⟩ := R (g + 1) (tkE B L p2) _ (sgN (tknd B L p2) :: σ) (o ++ w) y (by omega) (by rw [hopv]; exact hok) hpre (by omega) y2 y3 y4 e2 (by omega)
        rw [hopv] at z1
        rcases z3 with ⟨rfl, p3, w3, τ3, q3, a3', j1, j2, j3, j4, j5, j6, j7, j8, j9, j10⟩ | ⟨rfl, j1, d, j2, j3, j4, j5, j6⟩
        · have hlw3 : (o ++ w ++ w3).length = o.length + w.length + w3.length := by rw [List.length_append, List.length_append]
          obtain ⟨z4, y5, y6, y7, y8⟩ := kadds (sgN (tknd B L p2)) z2 hm hN j4 (by omega)
          rw [s5] at y5
          refine Or.inl ⟨(z4, nI 1, nI (j + 1)), hgo x _ j (by omega) hk k3.2.2.1 y z z4 _ y1 z1 y5, by omega, rfl, y6, 1, rfl, Or.inl ⟨rfl, p3, w ++ (w3 ++ [sgN (tknd B L p2)]), τ3, q3, a3', by omega, j2, j3.cg y8, ?_, ?_, ?_, ?_, ?_, ?_, j10⟩⟩
          · show ouC z4 N _
            rw [← List.append_assoc, ← List.append_assoc]
            exact y7
          · rw [List.length_append, List.length_append]
            show w.length + (w3.length + 1) + p ≤ p3
            omega
          · intro c hc
            rcases List.mem_append.mp hc with h | h
            · exact k6 c h
            · rcases List.mem_append.mp h with h | h
              · exact j6 c h
              · rw [List.mem_singleton] at h
                rw [h]
                exact Or.inr (Or.inr (by omega))
          · exact htL_3 k7 j7 hv
          · exact hreach.t j8
          · rw [unw_of2 (levT_le hg4) j9, unw_ge (by omega), List.append_assoc, List.append_assoc]
        · obtain ⟨z4, y5, y6, y7, y8⟩ := kaddsF (v := nM (tknd B L p2)) z2 hm hN j1
          exact Or.inl ⟨(z4, nI 0, nI (j + 1)), hgo x _ j (by omega) hk k3.2.2.1 y z z4 _ y1 z1 y5, by omega, rfl, y6, 0, rfl, Or.inr ⟨rfl, y7, d, j2, (y8 2).trans j3, hreach.t j4, j5, j6⟩⟩
      · exact Or.inr ⟨(nI 1, x), hs x _ j (by omega) (by omega) k3.2.2.1 hk, 1, x, rfl, a2, Or.inl ⟨rfl, p2, w, τ, q, a2', by omega, k2, k3, k4, k5, k6, k7, k8, k9, hex _ _ _ k10 hk⟩⟩
    · exact Or.inr ⟨(nI 0, x), hz x j hj, 0, x, rfl, a2, Or.inr ⟨rfl, k1⟩⟩)
  exact ⟨b, x2, by rw [g1, g2], g3, g4⟩
