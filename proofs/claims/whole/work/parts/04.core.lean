/-! THE CORE: one world of 60 cells (the class's 0 .. 35, the reference's 36 .. 59), none of which is ever made anew once both stand; its contents are a plain function 'which cell, which place: an int'. A state of the machine that holds it: QG. A row an instruction. -/
def qaWL : List Cond := lw_tbl.filter goodWord
theorem qa_wl {w : Cond} (h : w ∈ lw_tbl) (g : goodWord w = true) : w ∈ qaWL := List.mem_filter.mpr ⟨h, g⟩
theorem qa_good {w : Cond} (h : w ∈ qaWL) : (w.onTables && w.keeps) = true ∨ ∃ ty, w = .arrayClass ty := good_of_word (List.mem_filter.mp h).2
theorem qa_tb {w : Cond} (h : w ∈ tables_1) (g : goodWord w = true) : w ∈ qaWL := qa_wl (List.mem_append_right _ h) g
theorem qa_sl {w : Cond} (h : w ∈ k2_sels lw_privs) (g : goodWord w = true) : w ∈ qaWL := qa_wl (List.mem_append_left _ h) g
/-- contents: cell, place -/
abbrev qaM : Type := Nat → Nat → Int32
def qa_pt (m : qaM) (i : Nat) (f : Nat → Int32) : qaM := fun a => if a = i then f else m a
def qa_st (m : qaM) (i k : Nat) (v : Int32) : qaM := qa_pt m i (upd (m i) k v)
/-- a cell's shape: an int array of so many, or an object of a class with fields, each an int or the address of a cell -/
abbrev qaS : Type := Nat ⊕ (Nat × List (Option Nat))
def qa_f (ad : Nat → Nat) (f : Nat → Int32) (fl : List (Option Nat)) : List Value := fl.mapIdx (fun k o => match o with
  | none => .int (f k)
  | some t => .ref (ad t))
def qa_c (cI : ClassId) (ad : Nat → Nat) (f : Nat → Int32) (sh : qaS) : va_E := match sh with
  | .inl n => .inl (cI, n, .inl f)
  | .inr o => .inr (o.1, qa_f ad f o.2)
/-- D, the class of int arrays, addresses of the cells, addresses of the constants -/
abbrev qaY : Type := va_G × ClassId × (Nat → Nat) × (Nat → Nat)
def qa_w (Y : qaY) (S : List qaS) (m : qaM) : va_W := S.mapIdx (fun i sh => (Y.2.2.1 i, qa_c Y.2.1 Y.2.2.1 (m i) sh))
def qa_hs (h : Nat) : List qaS := [.inr (0, [some (h + 1), some (h + 3), some (h + 5), none, none, none, none, none, none, some 1]), .inr (1, [none, some (h + 2)]), .inl 56, .inr (2, [none, some (h + 4)]), .inl 8, .inl 4]
def qaSh : List qaS := [.inr (6, [some 1, some 6, some 8, some 14, some 20, some 26, some 32, none]),
  .inr (5, [none, some 2, some 3, some 4, some 5, none]), .inl 960, .inl 18, .inl 6, .inl 160,
  .inr (4, [none, some 7, none, none, none, none]), .inl 160] ++ (qa_hs 8 ++ (qa_hs 14 ++ (qa_hs 20 ++ (qa_hs 26 ++
  [.inr (3, [some 33, some 34, some 35]), .inl 4, .inl 4, .inl 160,
  .inr (7, [none, some 37, some 38, some 39, some 40, none, some 41, none, some 42, none, some 43, some 44, none, none, none, none, none, none, none, some 45, some 46, some 47, some 48, some 49, some 50, some 51, none, none, none, none, some 52, some 53, none, none, none, some 54, some 55, none, none, none, some 56, some 57, some 58, none, none, some 59, none]),
  .inl 8, .inl 8, .inl 48, .inl 9, .inl 4, .inl 160, .inl 1200, .inl 24, .inl 48, .inl 9, .inl 4, .inl 4, .inl 4, .inl 160, .inl 33, .inl 96, .inl 200, .inl 200, .inl 6, .inl 8, .inl 48, .inl 9, .inl 48]))))
theorem qa_len : qaSh.length = 60 := by decide +kernel
theorem qa_w_at {Y : qaY} {S : List qaS} {m : qaM} {i : Nat} {sh : qaS} (h : S[i]? = some sh) : (qa_w Y S m)[i]? = some (Y.2.2.1 i, qa_c Y.2.1 Y.2.2.1 (m i) sh) := by
  simp [qa_w, List.getElem?_mapIdx, h]
theorem qa_f_i {ad : Nat → Nat} {f : Nat → Int32} {fl : List (Option Nat)} {k : Nat} (h : fl[k]? = some none) : (qa_f ad f fl)[k]? = some (.int (f k)) := by
  simp [qa_f, List.getElem?_mapIdx, h]
theorem qa_f_r {ad : Nat → Nat} {f : Nat → Int32} {fl : List (Option Nat)} {k t : Nat} (h : fl[k]? = some (some t)) : (qa_f ad f fl)[k]? = some (.ref (ad t)) := by
  simp [qa_f, List.getElem?_mapIdx, h]
theorem qa_f_set {ad : Nat → Nat} {f : Nat → Int32} {fl : List (Option Nat)} {k : Nat} {v : Int32} (h : fl[k]? = some none) : (qa_f ad f fl).set k (.int v) = qa_f ad (upd f k v) fl := by
  apply List.ext_getElem?
  intro j
  have hk : k < fl.length := (List.getElem?_eq_some_iff.mp h).1
  rw [List.getElem?_set]
  by_cases hj : k = j
  · subst hj
    rw [if_pos rfl, if_pos (by simp [qa_f, hk]), qa_f_i h]
    simp [upd]
  · rw [if_neg hj]
    simp only [qa_f, List.getElem?_mapIdx]
    cases hq : fl[j]? with
    | none => rfl
    | some o => cases o <;> simp [upd, Ne.symm hj]
theorem qa_w_set {Y : qaY} {S : List qaS} {m : qaM} {i : Nat} {sh : qaS} {f : Nat → Int32} (h : S[i]? = some sh) : (qa_w Y S m).set i (Y.2.2.1 i, qa_c Y.2.1 Y.2.2.1 f sh) = qa_w Y S (qa_pt m i f) := by
  apply List.ext_getElem?
  intro j
  have hk : i < S.length := (List.getElem?_eq_some_iff.mp h).1
  rw [List.getElem?_set]
  by_cases hj : i = j
  · subst hj
    rw [if_pos rfl, if_pos (by simp [qa_w, hk]), qa_w_at h]
    simp [qa_pt]
  · rw [if_neg hj]
    simp only [qa_w, List.getElem?_mapIdx]
    cases hq : S[j]? with
    | none => rfl
    | some o => simp [qa_pt, Ne.symm hj]
theorem qa_w_len (Y : qaY) (S : List qaS) (m : qaM) : (qa_w Y S m).length = S.length := by simp [qa_w]
theorem qa_w_ad {Y : qaY} {S : List qaS} {m : qaM} {i : Nat} {q : Nat × va_E} (h : (qa_w Y S m)[i]? = some q) : i < S.length ∧ q.1 = Y.2.2.1 i := by
  have hl : i < (qa_w Y S m).length := (List.getElem?_eq_some_iff.mp h).1
  rw [qa_w_len] at hl
  have hs := qa_w_at (Y := Y) (m := m) (List.getElem?_eq_getElem hl)
  rw [h] at hs
  cases hs
  exact ⟨hl, rfl⟩
def qa_inj (Y : qaY) : Prop := ∀ i j : Nat, i < 60 → j < 60 → Y.2.2.1 i = Y.2.2.1 j → i = j
/-- which cells a method may change -/
def qa_A (Y : qaY) (sz : Nat) : Nat → Prop := fun q => (∃ i : Nat, i < 60 ∧ q = Y.2.2.1 i) ∨ sz ≤ q
theorem qa_D {Y : qaY} {A : Nat → Prop} {m : qaM} (hi : qa_inj Y) (hA : ∀ i : Nat, i < 60 → A (Y.2.2.1 i)) : va_D A (qa_w Y qaSh m) := by
  refine ⟨fun i j p q hp hq h => ?_, fun k q hq => ?_⟩
  · obtain ⟨a1, a2⟩ := qa_w_ad hp
    obtain ⟨b1, b2⟩ := qa_w_ad hq
    rw [qa_len] at a1 b1
    exact hi i j a1 b1 (by rw [← a2, ← b2, h])
  · obtain ⟨a1, a2⟩ := qa_w_ad hq
    rw [qa_len] at a1
    rw [a2]
    exact hA k a1
-- the constants
def qa_gr : Nat → Int32 := fun k => match k with
  | 0 => 8
  | 1 => 3
  | 2 => 3
  | _ => 2
def qa_tx : List String := ["wears", "yellows", "costs", "or", "and", "not", "worn", "lain", "more", "turned", "week", "wanted"]
def qa_tl : List Nat := [5, 7, 5, 2, 3, 3, 4, 4, 4, 6, 4, 6]
def qa_tb8 : List (List Int32) := [[119, 101, 97, 114, 115], [121, 101, 108, 108, 111, 119, 115], [99, 111, 115, 116, 115], [111, 114], [97, 110, 100], [110, 111, 116], [119, 111, 114, 110], [108, 97, 105, 110], [109, 111, 114, 101], [116, 117, 114, 110, 101, 100], [119, 101, 101, 107], [119, 97, 110, 116, 101, 100]]
def qa_E (Y : qaY) (A : Nat → Prop) (U : State) (H : Heap) : Prop :=
  va_Z "AlwaysTheTopTwo" "GREATEST" "[I" (.ref (Y.2.2.2 0)) A U H ∧ va_T .int (Y.2.2.2 0) 4 (fun j => .int (qa_gr j)) A U H ∧
  va_Z "java/lang/String" "COMPACT_STRINGS" "Z" (.int 1) A U H ∧ va_Zq "jdk/internal/util/Preconditions" "SIOOBE_FORMATTER" "Ljava/util/function/BiFunction;" A U H ∧
  vk_S 12 qa_tl qa_tb8 (fun i => Y.2.2.2 (1 + i)) (fun i => Y.2.2.2 (13 + i)) A U H ∧
  (∀ i : Nat, i < 12 → vk_R "AlwaysTheTopTwo$Tape" (100 + 2 * i) (qa_tx.getD i "") (Y.2.2.2 (1 + i)) U) ∧
  va_Nw (.methodLinkNest "AlwaysTheTopTwo$Sheets" 21 ⟨"AlwaysTheTopTwo", "isSheet", "(I)Z"⟩ "AlwaysTheTopTwo") U
theorem qa_E.kept {Y : qaY} {A : Nat → Prop} {U : State} {H H1 : Heap} (h : qa_E Y A U H) (hq : ∀ a : Nat, a < H.size → ¬ A a → H1[a]? = H[a]?) : qa_E Y A U H1 :=
  ⟨h.1.kept hq, h.2.1.kept hq, h.2.2.1.kept hq, h.2.2.2.1.kept hq, h.2.2.2.2.1.kept hq, h.2.2.2.2.2⟩
theorem qa_E.narrow {Y : qaY} {A B : Nat → Prop} {U : State} {H : Heap} (h : qa_E Y A U H) (hAB : ∀ q, B q → A q) : qa_E Y B U H :=
  ⟨h.1.narrow hAB, h.2.1.narrow hAB, h.2.2.1.narrow hAB, h.2.2.2.1.narrow hAB, h.2.2.2.2.1.narrow hAB, h.2.2.2.2.2⟩
theorem qa_E.warm {Y : qaY} {A : Nat → Prop} {u U : State} {H : Heap} (hW : u.WarmedH U.vm) (h : qa_E Y A u H) : qa_E Y A U H :=
  ⟨h.1.moved hW.alike, h.2.1.moved hW.alike, h.2.2.1.moved hW.alike, h.2.2.2.1.moved hW.alike, h.2.2.2.2.1.moved hW.alike, fun i hi => (h.2.2.2.2.2.1 i hi).warm hW, va_Nw.warmM hW h.2.2.2.2.2.2⟩
theorem qa_E.same {Y : qaY} {A : Nat → Prop} {u U : State} {H : Heap} (hv : U.vm = u.vm) (h : qa_E Y A u H) : qa_E Y A U H := by
  have ha : u.vm.Alike U.vm := by rw [hv]; exact Vm.Alike.refl _
  exact ⟨h.1.moved ha, h.2.1.moved ha, h.2.2.1.moved ha, h.2.2.2.1.moved ha, h.2.2.2.2.1.moved ha, fun i hi => vk_R.same hv (h.2.2.2.2.2.1 i hi), va_Nw.same rfl hv.symm h.2.2.2.2.2.2⟩
/-- a state at a method's start -/
def qa_U (Y : qaY) (m : qaM) (sz : Nat) (U : State) : Prop := U.heap.size = sz ∧ va_P Y.1 vwCl (qa_w Y qaSh m) U.heap ∧ va_K Y.1 vwCl [(Y.2.1, .int)] U ∧ qa_E Y (qa_A Y sz) U U.heap ∧ qa_inj Y
theorem qa_U.blind {Y : qaY} {m : qaM} {sz : Nat} {U : State} {g : JFrame} {mk : MethodId} {a : Array Value} (h : qa_U Y m sz U) : qa_U Y m sz (U.calling g mk a) :=
  ⟨h.1, h.2.1, va_K.moved (u := U) (U := U.calling g mk a) (Vm.Alike.refl U.vm) h.2.2.1, qa_E.same (u := U) (U := U.calling g mk a) rfl h.2.2.2.1, h.2.2.2.2⟩
def qa_rm (d : Nat) : Room := { frames := d, cells := 0, slots := 0, locals := 60 * d }
/-- contracts: on the arguments, at contents m, it returns, with contents m2 and the answer r -/
def qaMi (l : Launch) (Y : qaY) (y : MethodName) (b : ByteArray) (nL : Nat) (ret : Option FieldType) (d : Nat) (as : List Value) (m m2 : qaM) (r : Int32) : Prop :=
  ∀ sz : Nat, Met l y (.code y b nL ret :: qaWL) (qa_rm d) (va_Pc as (qa_U Y m sz)) (va_Qi (fun (r' : Int32) (_ : Unit) => r' = r) (fun _ t => va_P Y.1 vwCl (qa_w Y qaSh m2) t.heap) (qa_A Y sz)) 0 0 (qa_A Y sz)
def qaMl (l : Launch) (Y : qaY) (y : MethodName) (b : ByteArray) (nL : Nat) (ret : Option FieldType) (d : Nat) (as : List Value) (m m2 : qaM) (r : Int64) : Prop :=
  ∀ sz : Nat, Met l y (.code y b nL ret :: qaWL) (qa_rm d) (va_Pc as (qa_U Y m sz)) (va_Ql (fun (r' : Int64) (_ : Unit) => r' = r) (fun _ t => va_P Y.1 vwCl (qa_w Y qaSh m2) t.heap) (qa_A Y sz)) 0 0 (qa_A Y sz)
def qaMv (l : Launch) (Y : qaY) (y : MethodName) (b : ByteArray) (nL : Nat) (d : Nat) (as : List Value) (m m2 : qaM) : Prop :=
  ∀ sz : Nat, Met l y (.code y b nL none :: qaWL) (qa_rm d) (va_Pc as (qa_U Y m sz)) (va_Qv (fun (_ : Unit) => True) (fun _ t => va_P Y.1 vwCl (qa_w Y qaSh m2) t.heap) (qa_A Y sz)) 0 0 (qa_A Y sz)
def qaMr (l : Launch) (Y : qaY) (y : MethodName) (b : ByteArray) (nL : Nat) (ret : Option FieldType) (d : Nat) (as : List Value) (m m2 : qaM) (r : Nat) : Prop :=
  ∀ sz : Nat, Met l y (.code y b nL ret :: qaWL) (qa_rm d) (va_Pc as (qa_U Y m sz)) (va_Qr (fun (_ : Unit) => True) (fun _ a t => a = r ∧ va_P Y.1 vwCl (qa_w Y qaSh m2) t.heap) (qa_A Y sz)) 0 0 (qa_A Y sz)
/-- where a walk stands -/
abbrev qaX : Type := Program × Launch × Env × Room × State × MethodId × Array Value × List Frame × Method × Code × (State → Prop) × (Nat → Prop) × Nat × Nat
def QG (X : qaX) (Y : qaY) (nL : Nat) (m : qaM) (pc : Nat) (lv : List (Nat × Value)) (st : List Value) : Prop := match X with
  | (p, l, e, R, s, mid, args, below, meth, c, Q, A, cells, slots) => ∀ (H : Heap) (locs : List Loc) (ls : Array Slot), va_P Y.1 vwCl (qa_w Y qaSh m) H → va_S A s.heap H locs → lv_has ls nL lv → W p l e R s mid args below meth c H locs cells slots Q (F0 mid pc ls st)
/-- what is known of a walk -/
def QC (X : qaX) (l0 : Launch) (Y : qaY) (cc : ByteArray) (own : String) (nL D : Nat) : Prop := match X with
  | (p, l, _, R, s, mid, args, _, meth, c, _, A, cells, slots) => (l = l0 ∧ p.tables.exec = Jvm.exec ∧ c.code = cc ∧ meth.locks = false ∧ c.maxLocals = nL ∧ s.vm.findClass own = some mid.cls) ∧ (∀ w ∈ qaWL, w.before args s = true) ∧ va_K Y.1 vwCl [(Y.2.1, .int)] s ∧ qa_E Y A s s.heap ∧ qa_inj Y ∧ (∀ i : Nat, i < 60 → A (Y.2.2.1 i)) ∧ (∀ q : Nat, s.heap.size ≤ q → A q) ∧ (D ≤ R.frames ∧ 60 * D ≤ R.locals ∧ cells ≤ R.cells ∧ slots ≤ R.slots)
/-- how a method's walk ends -/
def QRi (X : qaX) (Y : qaY) (ret : Option FieldType) (m2 : qaM) (r : Int32) : Prop := match X with
  | (_, _, _, _, s, _, args, below, meth, _, Q, A, cells, slots) => meth.sig.returnType = ret ∧ Q = MQ below (va_Qi (fun (r' : Int32) (_ : Unit) => r' = r) (fun _ t => va_P Y.1 vwCl (qa_w Y qaSh m2) t.heap) A) args s cells slots A
def QRl (X : qaX) (Y : qaY) (ret : Option FieldType) (m2 : qaM) (r : Int64) : Prop := match X with
  | (_, _, _, _, s, _, args, below, meth, _, Q, A, cells, slots) => meth.sig.returnType = ret ∧ Q = MQ below (va_Ql (fun (r' : Int64) (_ : Unit) => r' = r) (fun _ t => va_P Y.1 vwCl (qa_w Y qaSh m2) t.heap) A) args s cells slots A
def QRv (X : qaX) (Y : qaY) (m2 : qaM) : Prop := match X with
  | (_, _, _, _, s, _, args, below, meth, _, Q, A, cells, slots) => meth.sig.returnType = none ∧ Q = MQ below (va_Qv (fun (_ : Unit) => True) (fun _ t => va_P Y.1 vwCl (qa_w Y qaSh m2) t.heap) A) args s cells slots A
def QRr (X : qaX) (Y : qaY) (ret : Option FieldType) (m2 : qaM) (r : Nat) : Prop := match X with
  | (_, _, _, _, s, _, args, below, meth, _, Q, A, cells, slots) => meth.sig.returnType = ret ∧ Q = MQ below (va_Qr (fun (_ : Unit) => True) (fun _ a t => a = r ∧ va_P Y.1 vwCl (qa_w Y qaSh m2) t.heap) A) args s cells slots A
-- entries
theorem qa_enti {l : Launch} {Y : qaY} {y : MethodName} {b : ByteArray} {nL : Nat} {ret : Option FieldType} {d : Nat} {as : List Value} {m m2 : qaM} {r : Int32} (hy : plainName y.cls = true) (hn : (lg_sl as).length ≤ nL)
    (h : ∀ X : qaX, QC X l Y b y.cls nL d → QRi X Y ret m2 r → QG X Y nL m 0 (lv_args 0 as) []) : qaMi l Y y b nL ret d as m m2 r := by
  intro sz
  refine Met.ofW (cc := b) (maxL := nL) (ret := ret) hy rfl ?_
  intro p e s mid args below meth c s₁ B hml hv
  obtain ⟨rfl, hsz, hP, hK, hE, hI⟩ := hv
  have hts := atoms_spec (ws := .code y b nL ret :: qaWL) B.pre
  subst hsz
  have hl := lv_entry as (n := nL) hn
  rw [lg_entry_eq]
  exact h (p, l, e, qa_rm d, s, mid, as.toArray, below, meth, c, _, qa_A Y s.heap.size, 0, 0)
    ⟨⟨rfl, B.exec, B.bytes, B.notSynchronized, hml, findClass_of_methodNamed B.named⟩, fun w hw => hts w (List.mem_cons_of_mem _ hw), hK, hE, hI, fun i hi => Or.inl ⟨i, hi, rfl⟩, fun q hq => Or.inr hq, Nat.le_refl _, Nat.le_refl _, Nat.le_refl _, Nat.le_refl _⟩
    ⟨B.returns, rfl⟩ s.heap [] _ hP va_S.rf hl
theorem qa_entl {l : Launch} {Y : qaY} {y : MethodName} {b : ByteArray} {nL : Nat} {ret : Option FieldType} {d : Nat} {as : List Value} {m m2 : qaM} {r : Int64} (hy : plainName y.cls = true) (hn : (lg_sl as).length ≤ nL)
    (h : ∀ X : qaX, QC X l Y b y.cls nL d → QRl X Y ret m2 r → QG X Y nL m 0 (lv_args 0 as) []) : qaMl l Y y b nL ret d as m m2 r := by
  intro sz
  refine Met.ofW (cc := b) (maxL := nL) (ret := ret) hy rfl ?_
  intro p e s mid args below meth c s₁ B hml hv
  obtain ⟨rfl, hsz, hP, hK, hE, hI⟩ := hv
  have hts := atoms_spec (ws := .code y b nL ret :: qaWL) B.pre
  subst hsz
  have hl := lv_entry as (n := nL) hn
  rw [lg_entry_eq]
  exact h (p, l, e, qa_rm d, s, mid, as.toArray, below, meth, c, _, qa_A Y s.heap.size, 0, 0)
    ⟨⟨rfl, B.exec, B.bytes, B.notSynchronized, hml, findClass_of_methodNamed B.named⟩, fun w hw => hts w (List.mem_cons_of_mem _ hw), hK, hE, hI, fun i hi => Or.inl ⟨i, hi, rfl⟩, fun q hq => Or.inr hq, Nat.le_refl _, Nat.le_refl _, Nat.le_refl _, Nat.le_refl _⟩
    ⟨B.returns, rfl⟩ s.heap [] _ hP va_S.rf hl
theorem qa_entv {l : Launch} {Y : qaY} {y : MethodName} {b : ByteArray} {nL : Nat} {d : Nat} {as : List Value} {m m2 : qaM} (hy : plainName y.cls = true) (hn : (lg_sl as).length ≤ nL)
    (h : ∀ X : qaX, QC X l Y b y.cls nL d → QRv X Y m2 → QG X Y nL m 0 (lv_args 0 as) []) : qaMv l Y y b nL d as m m2 := by
  intro sz
  refine Met.ofW (cc := b) (maxL := nL) (ret := none) hy rfl ?_
  intro p e s mid args below meth c s₁ B hml hv
  obtain ⟨rfl, hsz, hP, hK, hE, hI⟩ := hv
  have hts := atoms_spec (ws := .code y b nL none :: qaWL) B.pre
  subst hsz
  have hl := lv_entry as (n := nL) hn
  rw [lg_entry_eq]
  exact h (p, l, e, qa_rm d, s, mid, as.toArray, below, meth, c, _, qa_A Y s.heap.size, 0, 0)
    ⟨⟨rfl, B.exec, B.bytes, B.notSynchronized, hml, findClass_of_methodNamed B.named⟩, fun w hw => hts w (List.mem_cons_of_mem _ hw), hK, hE, hI, fun i hi => Or.inl ⟨i, hi, rfl⟩, fun q hq => Or.inr hq, Nat.le_refl _, Nat.le_refl _, Nat.le_refl _, Nat.le_refl _⟩
    ⟨B.returns, rfl⟩ s.heap [] _ hP va_S.rf hl
theorem qa_entr {l : Launch} {Y : qaY} {y : MethodName} {b : ByteArray} {nL : Nat} {ret : Option FieldType} {d : Nat} {as : List Value} {m m2 : qaM} {r : Nat} (hy : plainName y.cls = true) (hn : (lg_sl as).length ≤ nL)
    (h : ∀ X : qaX, QC X l Y b y.cls nL d → QRr X Y ret m2 r → QG X Y nL m 0 (lv_args 0 as) []) : qaMr l Y y b nL ret d as m m2 r := by
  intro sz
  refine Met.ofW (cc := b) (maxL := nL) (ret := ret) hy rfl ?_
  intro p e s mid args below meth c s₁ B hml hv
  obtain ⟨rfl, hsz, hP, hK, hE, hI⟩ := hv
  have hts := atoms_spec (ws := .code y b nL ret :: qaWL) B.pre
  subst hsz
  have hl := lv_entry as (n := nL) hn
  rw [lg_entry_eq]
  exact h (p, l, e, qa_rm d, s, mid, as.toArray, below, meth, c, _, qa_A Y s.heap.size, 0, 0)
    ⟨⟨rfl, B.exec, B.bytes, B.notSynchronized, hml, findClass_of_methodNamed B.named⟩, fun w hw => hts w (List.mem_cons_of_mem _ hw), hK, hE, hI, fun i hi => Or.inl ⟨i, hi, rfl⟩, fun q hq => Or.inr hq, Nat.le_refl _, Nat.le_refl _, Nat.le_refl _, Nat.le_refl _⟩
    ⟨B.returns, rfl⟩ s.heap [] _ hP va_S.rf hl
-- fields by their links
def qaFd (own : String) (index ci k : Nat) : Prop := ∃ (C ref : String) (T : u_T) (N : Nat), vwCl[ci]? = some (C, T, N) ∧ (∀ w ∈ u_ws C T N, w ∈ qaWL) ∧ k < N ∧ Cond.fieldLink own index ref (T k).2.1 (T k).2.2.1 ∈ qaWL ∧ (T k).1 = ref
def qaFp (own : String) (index ci k : Nat) (ty : FieldType) : Prop := ∃ (C ref : String) (T : u_T) (N : Nat) (ty0 : Nat → FieldType), (vwCl[ci]? = some (C, T, N) ∧ (∀ w ∈ u_ws C T N, w ∈ qaWL) ∧ k < N ∧ Cond.fieldLink own index ref (T k).2.1 (T k).2.2.1 ∈ qaWL ∧ (T k).1 = ref) ∧ (∀ k, k < N → parseFieldDescriptor (T k).2.2.1 = some (ty0 k)) ∧ (∀ a, a < N → ∀ b, b < N → a ≠ b → (T a).2.1 ≠ (T b).2.1) ∧ (T k).2.2.2 = false ∧ parseFieldDescriptor (T k).2.2.1 = some ty
-- calls by their links
def qaCV (own : String) (index : Nat) (y : MethodName) (n ci : Nat) : Prop := (Cond.methodLink own index y ∈ qaWL ∧ Cond.instanceMethod y ∈ qaWL ∧ Cond.selects y.cls y y ∈ qaWL ∧ Cond.initialized y.cls ∈ qaWL) ∧ (y.cls ≠ "java/lang/invoke/MethodHandle" ∧ y.cls ≠ "java/lang/invoke/VarHandle" ∧ (parseMethodDescriptor y.desc).map (fun d => d.parameters.length) = some n) ∧ ∃ (T : u_T) (N : Nat), vwCl[ci]? = some (y.cls, T, N)
def qaCS (own : String) (index : Nat) (y : MethodName) (n : Nat) : Prop := (Cond.methodLink own index y ∈ qaWL ∧ Cond.static y ∈ qaWL ∧ Cond.initialized y.cls ∈ qaWL) ∧ (y.cls ≠ "java/lang/invoke/MethodHandle" ∧ y.cls ≠ "java/lang/invoke/VarHandle" ∧ (parseMethodDescriptor y.desc).map (fun d => d.parameters.length) = some n)
theorem qa_gi {y : MethodName} {b : ByteArray} {nL : Nat} {ret : Option FieldType} (h : Cond.code y b nL ret ∈ qaWL) : GoodIn qaWL (.code y b nL ret :: qaWL) := by
  intro w hw
  rcases List.mem_cons.mp hw with rfl | hw
  · exact ⟨h, qa_good h⟩
  · exact ⟨hw, qa_good hw⟩
