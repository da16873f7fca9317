/-! PURE: the reading, as a list machine -/
def rkN (c : Nat) : Nat := if c = 0 then 0 else if c = 11 then 1 else if c = 12 then 2 else if c = 13 then 3 else if 15 < c then (if 17 < c then (if c = 18 then 6 else 7) else 5) else 4
def unw (r : Nat) : List Nat → List Nat → List Nat × List Nat
  | [], o => ([], o)
  | t :: h, o => if r ≤ rkN t then unw r h (o ++ [t]) else (t :: h, o)
def opC (c : Nat) : Nat := if c = 0 ∨ c = 13 ∨ c = 19 then 1 else 0
def opN : List Nat → Nat
  | [] => 0
  | c :: h => opC c + opN h
/-- the top's rank is below r -/
def trk (r : Nat) : List Nat → Prop
  | [] => True
  | t :: _ => rkN t < r
theorem trk.mo {r r2 : Nat} (h : r ≤ r2) : ∀ {σ : List Nat}, trk r σ → trk r2 σ := by
  intro σ
  cases σ with
  | nil => exact fun _ => trivial
  | cons t h => exact fun (w : rkN t < r) => Nat.lt_of_lt_of_le w (by assumption)
theorem unw_lt {r : Nat} : ∀ {σ o : List Nat}, trk r σ → unw r σ o = (σ, o) := by
  intro σ o
  cases σ with
  | nil => exact fun _ => rfl
  | cons t h =>
    intro (w : rkN t < r)
    exact if_neg (by omega)
theorem unw_ge {r t : Nat} {h o : List Nat} (w : r ≤ rkN t) : unw r (t :: h) o = unw r h (o ++ [t]) := if_pos w
theorem unw_tr {r : Nat} : ∀ (h o : List Nat), trk r (unw r h o).1 := by
  intro h
  induction h with
  | nil => exact fun _ => trivial
  | cons t h ih =>
    intro o
    by_cases w : r ≤ rkN t
    · rw [unw_ge w]
      exact ih _
    · have : unw r (t :: h) o = (t :: h, o) := if_neg w
      rw [this]
      show rkN t < r
      omega
theorem unw_un {a b : Nat} (hab : a ≤ b) : ∀ (h o : List Nat), unw a (unw b h o).1 (unw b h o).2 = unw a h o := by
  intro h
  induction h with
  | nil => exact fun _ => rfl
  | cons t h ih =>
    intro o
    by_cases w : b ≤ rkN t
    · rw [unw_ge w, unw_ge (Nat.le_trans hab w)]
      exact ih _
    · have : unw b (t :: h) o = (t :: h, o) := if_neg w
      rw [this]
/-- what a finer unwinding came to, unwound more -/
theorem unw_of {a b : Nat} (hab : a ≤ b) {τ q σ o : List Nat} (h : unw b τ q = (σ, o)) : unw a τ q = unw a σ o := by
  rw [← unw_un hab, h]
theorem unw_of2 {a b : Nat} (hab : a ≤ b) {τ q σ o : List Nat} (h : unw b τ q = unw b σ o) : unw a τ q = unw a σ o := by
  rw [← unw_un hab, h, unw_un hab]
theorem unw_len (r : Nat) : ∀ (h o : List Nat), (unw r h o).1.length + (unw r h o).2.length = h.length + o.length := by
  intro h
  induction h with
  | nil => exact fun _ => rfl
  | cons t h ih =>
    intro o
    by_cases w : r ≤ rkN t
    · rw [unw_ge w, ih, List.length_append, List.length_cons, List.length_cons, List.length_nil]
      omega
    · have : unw r (t :: h) o = (t :: h, o) := if_neg w
      rw [this]
theorem unw_opn (r : Nat) : ∀ (h o : List Nat), opN (unw r h o).1 ≤ opN h := by
  intro h
  induction h with
  | nil => exact fun _ => Nat.le_refl _
  | cons t h ih =>
    intro o
    by_cases w : r ≤ rkN t
    · rw [unw_ge w]
      have := ih (o ++ [t])
      show _ ≤ opC t + opN h
      omega
    · have : unw r (t :: h) o = (t :: h, o) := if_neg w
      rw [this]
      exact Nat.le_refl _
theorem unw_all {P : Nat → Prop} (r : Nat) : ∀ (h o : List Nat), (∀ c ∈ h, P c) → ∀ c ∈ (unw r h o).1, P c := by
  intro h
  induction h with
  | nil => exact fun o hp c hc => by cases hc
  | cons t h ih =>
    intro o hp
    by_cases w : r ≤ rkN t
    · rw [unw_ge w]
      exact ih _ (fun c hc => hp c (List.mem_cons_of_mem _ hc))
    · have : unw r (t :: h) o = (t :: h, o) := if_neg w
      rw [this]
      exact hp
theorem unw_all2 {P : Nat → Prop} (r : Nat) : ∀ (h o : List Nat), (∀ c ∈ h, r ≤ rkN c → P c) → (∀ c ∈ o, P c) → ∀ c ∈ (unw r h o).2, P c := by
  intro h
  induction h with
  | nil => exact fun o _ hp => hp
  | cons t h ih =>
    intro o hp ho
    by_cases w : r ≤ rkN t
    · rw [unw_ge w]
      refine ih _ (fun c hc => hp c (List.mem_cons_of_mem _ hc)) (fun c hc => ?_)
      rcases List.mem_append.mp hc with z | z
      · exact ho c z
      · rw [List.mem_singleton] at z
        rw [z]
        exact hp t (List.mem_cons_self ..) w
    · have : unw r (t :: h) o = (t :: h, o) := if_neg w
      rw [this]
      exact ho
abbrev Cf : Type := Nat × Nat × Nat × List Nat × List Nat
def tp4 : List Nat → Bool
  | [] => false
  | t :: _ => decide (rkN t = 4)
def sgN (k : Nat) : Nat := if k = 303 then 11 else if k = 304 then 12 else if k = 60 then 14 else if k = 61 then 15 else if k = 43 then 16 else if k = 45 then 17 else if k = 42 then 18 else 0
noncomputable def stpA (B : Nat → Nat) (L : Nat) : Cf → Option Cf := fun (p, w, a, h, o) =>
  if w = 1 then
    (if tknd B L p = 2 then some (tkE B L p, 0, a, (unw 7 h (o ++ [100000 + tkV B L p])).1, (unw 7 h (o ++ [100000 + tkV B L p])).2)
    else if 306 ≤ tknd B L p then some (tkE B L p, 0, a, (unw 7 h (o ++ [tknd B L p - 306])).1, (unw 7 h (o ++ [tknd B L p - 306])).2)
    else if opN h = 5 then none
    else if tknd B L p = 305 ∧ a = 1 then some (tkE B L p, 1, a, 13 :: h, o)
    else if tknd B L p = 45 then some (tkE B L p, 1, 0, 19 :: h, o)
    else if tknd B L p = 40 then some (tkE B L p, 1, 1, 0 :: h, o)
    else none)
  else if tknd B L p = 41 then (if (unw 1 h o).1 = [] then none else some (tkE B L p, 0, a, (unw 7 (unw 1 h o).1.tail (unw 1 h o).2).1, (unw 7 (unw 1 h o).1.tail (unw 1 h o).2).2))
  else if sgN (tknd B L p) = 0 then none
  else if rkN (sgN (tknd B L p)) = 4 then (if tp4 (unw 5 h o).1 = true then none else some (tkE B L p, 1, 0, sgN (tknd B L p) :: (unw 5 h o).1, (unw 5 h o).2))
  else some (tkE B L p, 1, if 12 < sgN (tknd B L p) then 0 else 1, sgN (tknd B L p) :: (unw (rkN (sgN (tknd B L p))) h o).1, (unw (rkN (sgN (tknd B L p))) h o).2)
def okA (B : Nat → Nat) (L : Nat) : Cf → Prop := fun (p, w, _, h, o) => w = 0 ∧ tknd B L p = 59 ∧ (unw 1 h o).1 = []
noncomputable def itA (B : Nat → Nat) (L : Nat) : Nat → Cf → Option Cf
  | 0, c => some c
  | n + 1, c => Option.bind (stpA B L c) (itA B L n)
theorem itA_s {B : Nat → Nat} {L n : Nat} {c d : Cf} (h : stpA B L c = some d) : itA B L (n + 1) c = itA B L n d := by
  rw [itA, h]
  rfl
def Rch (B : Nat → Nat) (L : Nat) (c d : Cf) : Prop := ∃ n, itA B L n c = some d
theorem Rch.rf {B : Nat → Nat} {L : Nat} (c : Cf) : Rch B L c c := ⟨0, rfl⟩
theorem itA_t {B : Nat → Nat} {L : Nat} {d e : Cf} : ∀ (n k : Nat) (c : Cf), itA B L n c = some d → itA B L k d = some e → itA B L (n + k) c = some e := by
  intro n
  induction n with
  | zero =>
    intro k c h1 h2
    have : c = d := Option.some.inj h1
    rw [this, Nat.zero_add]
    exact h2
  | succ n ih =>
    intro k c h1 h2
    cases hs : stpA B L c with
    | none =>
      rw [itA, hs] at h1
      cases h1
    | some x =>
      rw [itA_s hs] at h1
      rw [show n + 1 + k = n + k + 1 by omega, itA_s hs]
      exact ih k x h1 h2
theorem Rch.t {B : Nat → Nat} {L : Nat} {c d e : Cf} (h1 : Rch B L c d) (h2 : Rch B L d e) : Rch B L c e := by
  obtain ⟨n, hn⟩ := h1
  obtain ⟨k, hk⟩ := h2
  exact ⟨n + k, itA_t n k c hn hk⟩
theorem Rch.one {B : Nat → Nat} {L : Nat} {c d : Cf} (h : stpA B L c = some d) : Rch B L c d := ⟨1, by rw [itA_s h]; rfl⟩
theorem Rch.st {B : Nat → Nat} {L : Nat} {c d e : Cf} (h : stpA B L c = some d) (h2 : Rch B L d e) : Rch B L c e := (Rch.one h).t h2
/-- codes held -/
def hdC (c : Nat) : Prop := c = 0 ∨ (11 ≤ c ∧ c ≤ 19)
theorem hdC.st {c r : Nat} (h : hdC c) (h1 : 1 ≤ r) (h2 : r ≤ rkN c) : stC c := by
  rcases h with rfl | ⟨h3, h4⟩
  · have : rkN 0 = 0 := rfl
    omega
  · exact Or.inr (Or.inr ⟨h3, h4⟩)
theorem sgN_c {k : Nat} (h : sgN k ≠ 0) : 11 ≤ sgN k ∧ sgN k ≤ 18 ∧ sgN k ≠ 13 := by
  unfold sgN at h ⊢
  repeat' split
  all_goals first | omega | (exfalso; revert h; simp_all)
/-- a config in order -/
def WFc (L : Nat) : Cf → Prop := fun (p, w, a, h, o) => h.length + o.length ≤ p ∧ p ≤ L ∧ w ≤ 1 ∧ a ≤ 1 ∧ opN h ≤ 5 ∧ (∀ t ∈ h, hdC t) ∧ (∀ t ∈ o, t < 200000)
