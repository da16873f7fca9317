/-! WORDS of the pure functions, and how a proof takes them apart -/
def qaCN (own : String) (index : Nat) (y : MethodName) (host : String) (n : Nat) : Prop := (own = "AlwaysTheTopTwo$Sheets" ∧ index = 21 ∧ y = ⟨"AlwaysTheTopTwo", "isSheet", "(I)Z"⟩ ∧ host = "AlwaysTheTopTwo") ∧ (Cond.static y ∈ qaWL ∧ Cond.initialized y.cls ∈ qaWL) ∧ (y.cls ≠ "java/lang/invoke/MethodHandle" ∧ y.cls ≠ "java/lang/invoke/VarHandle" ∧ (parseMethodDescriptor y.desc).map (fun d => d.parameters.length) = some n)
def qa_max (x y : Int32) : Int32 := if x < y then y else x
def qa_min (x y : Int32) : Int32 := if y < x then y else x
def qa_lt {α β : Type} (e : α) (k : α → β) : β := k e
theorem qa_lt_e {α β : Type} {e : α} {k : α → Option β} {z : β} (h : qa_lt e k = some z) : ∃ y, y = e ∧ k y = some z := ⟨e, rfl, h⟩
def qa_ck {α : Type} (b : Bool) (k : Option α) : Option α := match b with
  | true => k
  | false => none
theorem qa_ck_e {α : Type} {b : Bool} {k : Option α} {z : α} (h : qa_ck b k = some z) : b = true ∧ k = some z := by
  cases b
  · cases h
  · exact ⟨rfl, h⟩
def qa_inr {α β : Type} (o : Option β) : Option (α ⊕ β) := o.map .inr
theorem qa_inr_e {α β : Type} {o : Option β} {z : α ⊕ β} (h : qa_inr o = some z) : ∃ y : β, z = .inr y ∧ o = some y := by
  cases o with
  | none => cases h
  | some y =>
    cases h
    exact ⟨y, rfl, rfl⟩
def qa_lp {σ ρ : Type} (f : σ → Option (σ ⊕ ρ)) : Nat → σ → Option ρ
  | 0, _ => none
  | n + 1, s => match f s with
    | none => none
    | some (.inl s') => qa_lp f n s'
    | some (.inr r) => some r
theorem qa_lp_e {σ ρ : Type} {f : σ → Option (σ ⊕ ρ)} {n : Nat} {s : σ} {z : ρ} (h : qa_lp f (n + 1) s = some z) : ∃ y, f s = some y ∧ ((∃ s', y = .inl s' ∧ qa_lp f n s' = some z) ∨ y = .inr z) := by
  unfold qa_lp at h
  cases hf : f s with
  | none => rw [hf] at h; cases h
  | some y =>
    rw [hf] at h
    cases y with
    | inl s' => exact ⟨_, rfl, Or.inl ⟨s', rfl, h⟩⟩
    | inr r => cases h; exact ⟨_, rfl, Or.inr rfl⟩
def qa_F : Nat := 2000
def qa_eq {ρ : Type} (fin : ρ) (z : ρ) : Prop := z = fin
def qa_K {σ ρ : Type} (P : σ → Prop) (K : ρ → Prop) (z : σ ⊕ ρ) : Prop := match z with
  | .inl s => P s
  | .inr r => K r
theorem qa_if_t {c : Prop} [Decidable c] {α : Type} {a b : Option α} {z : α} (h : c) (hf : (if c then a else b) = some z) : a = some z := by rw [if_pos h] at hf; exact hf
theorem qa_if_f {c : Prop} [Decidable c] {α : Type} {a b : Option α} {z : α} (h : ¬ c) (hf : (if c then a else b) = some z) : b = some z := by rw [if_neg h] at hf; exact hf
def qa_in (x : Int32) (n : Nat) : Bool := decide (0 ≤ x.toInt) && decide (x.toInt < n)
theorem qa_in_v {x : Int32} {n : Nat} (h : qa_in x n = true) : vp_in x n := by
  unfold qa_in at h
  rw [Bool.and_eq_true, decide_eq_true_eq, decide_eq_true_eq] at h
  exact vp_in_iff.mpr h
def qa_bl (x : Int32) : Bool := decide (x = 0 ∨ x = 1)
theorem qa_bl_n {x : Int32} (h : qa_bl x = true) : narrow .boolean (.int x) = .int x := by
  rcases of_decide_eq_true h with rfl | rfl <;> rfl
theorem qa_bl_f {x : Int32} (h : qa_bl x = true) : fits .boolean (.int x) = true := by
  rcases of_decide_eq_true h with rfl | rfl <;> rfl
def qa_cpok (sp dp n : Int32) (n0 n1 : Nat) : Bool := decide (¬ sp < 0) && (decide (¬ dp < 0) && (decide (¬ n < 0) && (decide (sp.toNatClampNeg + n.toNatClampNeg ≤ n0) && decide (dp.toNatClampNeg + n.toNatClampNeg ≤ n1))))
theorem qa_cpok_e {sp dp n : Int32} {n0 n1 : Nat} (h : qa_cpok sp dp n n0 n1 = true) : ¬ sp < 0 ∧ ¬ dp < 0 ∧ ¬ n < 0 ∧ sp.toNatClampNeg + n.toNatClampNeg ≤ n0 ∧ dp.toNatClampNeg + n.toNatClampNeg ≤ n1 := by
  unfold qa_cpok at h
  simp only [Bool.and_eq_true, decide_eq_true_eq] at h
  exact h
/-- the char at place k of the word i -/
def qa_ch (i k : Nat) : Int32 := ((((qa_tb8.getD i []).getD k 0) &&& 255).toUInt32 % 65536).toInt32
theorem qa_w_ao {Y : qaY} {S : List qaS} {m : qaM} {i ci : Nat} {fl : List (Option Nat)} (h : S[i]? = some (.inr (ci, fl))) : (qa_w Y S m)[i]? = some (Y.2.2.1 i, .inr (ci, qa_f Y.2.2.1 (m i) fl)) := qa_w_at h
theorem qa_w_aa {Y : qaY} {S : List qaS} {m : qaM} {i n : Nat} (h : S[i]? = some (.inl n)) : (qa_w Y S m)[i]? = some (Y.2.2.1 i, .inl (Y.2.1, n, .inl (m i))) := qa_w_at h
theorem qa_w_so {Y : qaY} {S : List qaS} {m : qaM} {i ci : Nat} {fl : List (Option Nat)} {f : Nat → Int32} (h : S[i]? = some (.inr (ci, fl))) : (qa_w Y S m).set i (Y.2.2.1 i, .inr (ci, qa_f Y.2.2.1 f fl)) = qa_w Y S (qa_pt m i f) := qa_w_set h
theorem qa_w_sa {Y : qaY} {S : List qaS} {m : qaM} {i n : Nat} {f : Nat → Int32} (h : S[i]? = some (.inl n)) : (qa_w Y S m).set i (Y.2.2.1 i, .inl (Y.2.1, n, .inl f)) = qa_w Y S (qa_pt m i f) := qa_w_set h
