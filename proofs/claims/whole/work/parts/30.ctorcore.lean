/-! CONSTRUCTORS: worlds that grow; QW: from these cells, at pc, the walk ends well -/
def qaNf (U : State) : Prop := va_Nw (.methodLinkNest "AlwaysTheTopTwo" 18 ⟨"AlwaysTheTopTwo$Tape", "<init>", "()V"⟩ "AlwaysTheTopTwo") U ∧ va_Nw (.methodLinkNest "AlwaysTheTopTwo" 43 ⟨"AlwaysTheTopTwo$Sheets", "<init>", "()V"⟩ "AlwaysTheTopTwo") U ∧
  va_Nw (.methodLinkNest "AlwaysTheTopTwo$House" 11 ⟨"AlwaysTheTopTwo$Linen", "<init>", "()V"⟩ "AlwaysTheTopTwo") U ∧ va_Nw (.methodLinkNest "AlwaysTheTopTwo$House" 20 ⟨"AlwaysTheTopTwo$Pile", "<init>", "()V"⟩ "AlwaysTheTopTwo") U
theorem qaNf.warm {s U : State} (hW : s.WarmedH U.vm) (h : qaNf s) : qaNf U := ⟨va_Nw.warmM hW h.1, va_Nw.warmM hW h.2.1, va_Nw.warmM hW h.2.2.1, va_Nw.warmM hW h.2.2.2⟩
theorem qaNf.same {u U : State} (hv : u.vm = U.vm) (h : qaNf u) : qaNf U := ⟨va_Nw.same rfl hv h.1, va_Nw.same rfl hv h.2.1, va_Nw.same rfl hv h.2.2.1, va_Nw.same rfl hv h.2.2.2⟩
def qaRm (d mc ms : Nat) : Room := { frames := d, cells := mc, slots := ms, locals := 60 * d }
def qaWU (D : va_G) (cI : ClassId) (wc : va_W) (sz : Nat) (U : State) : Prop := U.heap.size = sz ∧ va_P D vwCl wc U.heap ∧ va_K D vwCl [(cI, .int)] U ∧ va_D (fun _ => True) wc ∧ qaNf U
theorem qaWU.blind {D : va_G} {cI : ClassId} {wc : va_W} {sz : Nat} {U : State} {g : JFrame} {mk : MethodId} {a : Array Value} (h : qaWU D cI wc sz U) : qaWU D cI wc sz (U.calling g mk a) :=
  ⟨h.1, h.2.1, va_K.moved (u := U) (U := U.calling g mk a) (Vm.Alike.refl U.vm) h.2.2.1, h.2.2.2.1, qaNf.same (u := U) (U := U.calling g mk a) rfl h.2.2.2.2⟩
def qaMc {S : Type} (l : Launch) (D : va_G) (cI : ClassId) (y : MethodName) (b : ByteArray) (nL d mc ms : Nat) (as : List Value) (wc : va_W) (post : S → va_W) : Prop :=
  ∀ sz : Nat, Met l y (.code y b nL none :: qaWL) (qaRm d mc ms) (va_Pc as (qaWU D cI wc sz)) (va_Qv (fun _ : S => True) (fun u t => va_P D vwCl (post u) t.heap ∧ va_D (va_A wc sz) (post u)) (va_A wc sz)) mc ms (va_A wc sz)
def QW (X : qaX) (D : va_G) (nL : Nat) (ws : va_W) (cells slots pc : Nat) (lv : List (Nat × Value)) (st : List Value) : Prop := match X with
  | (p, l, e, R, s, mid, args, below, meth, c, Q, A, _, _) => ∀ (H : Heap) (locs : List Loc) (ls : Array Slot), va_P D vwCl ws H → va_D A ws → va_S A s.heap H locs → lv_has ls nL lv → W p l e R s mid args below meth c H locs cells slots Q (F0 mid pc ls st)
def QWC (X : qaX) (l0 : Launch) (D : va_G) (cI : ClassId) (cc : ByteArray) (own : String) (nL d mc ms : Nat) : Prop := match X with
  | (p, l, _, R, s, mid, args, _, meth, c, _, A, _, _) => (l = l0 ∧ p.tables.exec = Jvm.exec ∧ c.code = cc ∧ meth.locks = false ∧ c.maxLocals = nL ∧ s.vm.findClass own = some mid.cls) ∧ (∀ w ∈ qaWL, w.before args s = true) ∧ va_K D vwCl [(cI, .int)] s ∧ qaNf s ∧ (∀ q : Nat, s.heap.size ≤ q → A q) ∧ (d ≤ R.frames ∧ 60 * d ≤ R.locals ∧ mc ≤ R.cells ∧ ms ≤ R.slots)
def QWR {S : Type} (X : qaX) (D : va_G) (post : S → va_W) (mc ms : Nat) : Prop := match X with
  | (_, _, _, _, s, _, args, below, meth, _, Q, A, _, _) => meth.sig.returnType = none ∧ Q = MQ below (va_Qv (fun _ : S => True) (fun u t => va_P D vwCl (post u) t.heap ∧ va_D A (post u)) A) args s mc ms A
def qaIni (X : qaX) : Prop := match X with
  | (_, _, _, _, _, _, _, _, meth, _, _, _, _, _) => meth.name = "<init>"
theorem qw_ent {S : Type} {l : Launch} {D : va_G} {cI : ClassId} {y : MethodName} {b : ByteArray} {nL d mc ms : Nat} {as : List Value} {wc : va_W} {post : S → va_W} (hy : plainName y.cls = true) (hnm : y.name = "<init>") (hn : (lg_sl as).length ≤ nL)
    (h : ∀ X : qaX, QWC X l D cI b y.cls nL d mc ms → qaIni X → QWR X D post mc ms → QW X D nL wc 0 0 0 (lv_args 0 as) []) : qaMc l D cI y b nL d mc ms as wc post := by
  intro sz
  refine Met.ofW (cc := b) (maxL := nL) (ret := none) hy rfl ?_
  intro p e s mid args below meth c s₁ B hml hv
  obtain ⟨rfl, hsz, hP, hK, hD0, hN⟩ := hv
  have hts := atoms_spec (ws := .code y b nL none :: qaWL) B.pre
  have hin : meth.name = "<init>" := by rw [← hnm]; exact (name_of_methodNamed B.named B.method).1
  subst hsz
  have hl := lv_entry as (n := nL) hn
  rw [lg_entry_eq]
  exact h (p, l, e, qaRm d mc ms, s, mid, as.toArray, below, meth, c, _, va_A wc s.heap.size, 0, 0)
    ⟨⟨rfl, B.exec, B.bytes, B.notSynchronized, hml, findClass_of_methodNamed B.named⟩, fun w hw => hts w (List.mem_cons_of_mem _ hw), hK, hN, fun q hq => Or.inr hq, Nat.le_refl _, Nat.le_refl _, Nat.le_refl _, Nat.le_refl _⟩
    hin ⟨B.returns, rfl⟩ s.heap [] _ hP hD0.self va_S.rf hl
section
variable {X : qaX} {l0 : Launch} {D : va_G} {cI : ClassId} {cc : ByteArray} {own : String} {nL d mc ms : Nat} {ws : va_W} {cells slots pc : Nat} {lv : List (Nat × Value)} {st : List Value}
theorem qw_aload_n (hC : QWC X l0 D cI cc own nL d mc ms) {kf : Fin 4} {i : Nat} {x : Nat} (q : Nat) (hq : lv[q]? = some (i, .ref x)) (hi : (kf : Nat) = i) (hd : decode cc pc = .ok (.aload_n kf, 1)) (k : QW X D nL ws cells slots (pc + 1) lv (.ref x :: st)) : QW X D nL ws cells slots pc lv st := by
  obtain ⟨p, l, e, R, s, mid, args, below, meth, c, Q, A, _, _⟩ := X
  obtain ⟨⟨hl0, hx, hb, hlk, hml, hown⟩, hts, hK, hN, hAn, hR⟩ := hC
  intro H locs ls hP hDd hS hl
  exact lv_aload_n hx hb hd hi (lv_at hl q hq) (k H locs ls hP hDd hS hl)
theorem qw_iconst (hC : QWC X l0 D cI cc own nL d mc ms) {n : Int} {v : Int32} (hd : decode cc pc = .ok (.iconst n, 1)) (hv : Int32.ofInt n = v) (k : QW X D nL ws cells slots (pc + 1) lv (.int v :: st)) : QW X D nL ws cells slots pc lv st := by
  obtain ⟨p, l, e, R, s, mid, args, below, meth, c, Q, A, _, _⟩ := X
  obtain ⟨⟨hl0, hx, hb, hlk, hml, hown⟩, hts, hK, hN, hAn, hR⟩ := hC
  intro H locs ls hP hDd hS hl
  exact lv_iconst hx hb hd hv (k H locs ls hP hDd hS hl)
theorem qw_bipush (hC : QWC X l0 D cI cc own nL d mc ms) {n : Int} {v : Int32} (hd : decode cc pc = .ok (.bipush n, 2)) (hv : (Int8.ofInt n).toInt32 = v) (k : QW X D nL ws cells slots (pc + 2) lv (.int v :: st)) : QW X D nL ws cells slots pc lv st := by
  obtain ⟨p, l, e, R, s, mid, args, below, meth, c, Q, A, _, _⟩ := X
  obtain ⟨⟨hl0, hx, hb, hlk, hml, hown⟩, hts, hK, hN, hAn, hR⟩ := hC
  intro H locs ls hP hDd hS hl
  exact lv_bipush hx hb hd hv (k H locs ls hP hDd hS hl)
theorem qw_sipush (hC : QWC X l0 D cI cc own nL d mc ms) {n : Int} {v : Int32} (hd : decode cc pc = .ok (.sipush n, 3)) (hv : (Int16.ofInt n).toInt32 = v) (k : QW X D nL ws cells slots (pc + 3) lv (.int v :: st)) : QW X D nL ws cells slots pc lv st := by
  obtain ⟨p, l, e, R, s, mid, args, below, meth, c, Q, A, _, _⟩ := X
  obtain ⟨⟨hl0, hx, hb, hlk, hml, hown⟩, hts, hK, hN, hAn, hR⟩ := hC
  intro H locs ls hP hDd hS hl
  exact lv_sipush hx hb hd hv (k H locs ls hP hDd hS hl)
theorem qw_dup (hC : QWC X l0 D cI cc own nL d mc ms) {v : Value} (hv : v.category = 1) (hd : decode cc pc = .ok (.dup, 1)) (k : QW X D nL ws cells slots (pc + 1) lv (v :: v :: st)) : QW X D nL ws cells slots pc lv (v :: st) := by
  obtain ⟨p, l, e, R, s, mid, args, below, meth, c, Q, A, _, _⟩ := X
  obtain ⟨⟨hl0, hx, hb, hlk, hml, hown⟩, hts, hK, hN, hAn, hR⟩ := hC
  intro H locs ls hP hDd hS hl
  exact lv_dup hx hb hd hv (k H locs ls hP hDd hS hl)
theorem qw_oinit (hC : QWC X l0 D cI cc own nL d mc ms) {index a : Nat} (hlink : Cond.methodLink own index objectInit ∈ qaWL) (hinst : Cond.instanceMethod objectInit ∈ qaWL) (hcode : Cond.code objectInit ⟨#[0xb1]⟩ 1 none ∈ qaWL) (hd0 : 1 ≤ d) (hrest : (st.map fun v => v.category).sum ≤ 8) (hd : decode cc pc = .ok (.invokespecial index, 3)) (k : QW X D nL ws cells slots (pc + 3) lv st) : QW X D nL ws cells slots pc lv (.ref a :: st) := by
  obtain ⟨p, l, e, R, s, mid, args, below, meth, c, Q, A, _, _⟩ := X
  obtain ⟨⟨hl0, hx, hb, hlk, hml, hown⟩, hts, hK, hN, hAn, hR1, hR2, hR3, hR4⟩ := hC
  intro H locs ls hP hDd hS hl
  exact W.objInit hx hb hown (hts _ hlink) (hts _ hinst) (hts _ hcode) rfl (by rw [hml]; exact hl.1) rfl hd (by omega) (by show 2 * 0 + _ + 12 ≤ _; omega) (k H locs ls hP hDd hS hl)
def qaNew (own : String) (index ci N : Nat) (fs : List Value) : Prop := ∃ (C : String) (T : u_T) (ty : Nat → FieldType), vwCl[ci]? = some (C, T, N) ∧ (∀ w ∈ u_ws C T N, w ∈ qaWL) ∧ (∀ k, k < N → parseFieldDescriptor (T k).2.2.1 = some (ty k)) ∧ (Cond.classLink own index C ∈ qaWL ∧ Cond.instantiable C N ∈ qaWL ∧ Cond.initialized C ∈ qaWL) ∧ ∀ j, j < N → defaultValue (ty j) = vp_V fs j
theorem qw_new (hC : QWC X l0 D cI cc own nL d mc ms) {index ci N : Nat} {fs : List Value} (hw : qaNew own index ci N fs) (hc : cells + 1 ≤ mc) (hs : slots + N ≤ ms) (hd : decode cc pc = .ok (.new index, 3)) (k : ∀ q : Nat, QW X D nL (ws ++ [(q, .inr (ci, fs))]) (cells + 1) (slots + N) (pc + 3) lv (.ref q :: st)) : QW X D nL ws cells slots pc lv st := by
  obtain ⟨p, l, e, R, s, mid, args, below, meth, c, Q, A, _, _⟩ := X
  obtain ⟨⟨hl0, hx, hb, hlk, hml, hown⟩, hts, hK, hN, hAn, hR1, hR2, hR3, hR4⟩ := hC
  obtain ⟨C, T, ty, h1, h2, h3, ⟨h4, h5, h6⟩, h7⟩ := hw
  intro H locs ls hP hDd hS hl
  exact va_new hx hb hts h2 ty h3 hown (hts _ h4) (hts _ h5) (hts _ h6) hK hP hDd hS hAn h1 h7 (by omega) (by omega) hd (fun q H1 hP1 hD1 hS1 => k q H1 locs ls hP1 hD1 hS1 hl)
theorem qw_newa (hC : QWC X l0 D cI cc own nL d mc ms) {n : Int32} {N : Nat} (harr : Cond.arrayClass (newarray.typeOf .int) ∈ qaWL) (hn : ¬ n < 0) (hN0 : n.toNatClampNeg = N) (hbig : N ≤ 2000) (hc : cells + 1 ≤ mc) (hs : slots + N ≤ ms) (hd : decode cc pc = .ok (.newarray .int, 2)) (k : ∀ q : Nat, QW X D nL (ws ++ [(q, .inl (cI, N, .inl (fun _ => 0)))]) (cells + 1) (slots + N) (pc + 2) lv (.ref q :: st)) : QW X D nL ws cells slots pc lv (.int n :: st) := by
  obtain ⟨p, l, e, R, s, mid, args, below, meth, c, Q, A, _, _⟩ := X
  obtain ⟨⟨hl0, hx, hb, hlk, hml, hown⟩, hts, hK, hN, hAn, hR1, hR2, hR3, hR4⟩ := hC
  intro H locs ls hP hDd hS hl
  refine va_newa (atype := .int) (a0 := (N, .inl (fun _ => 0))) hx hb (hts _ harr) (ty := .int) rfl hK hP hDd hS hAn (fun cA => rfl) hn hN0 (by show N * 4 ≤ _; omega) (by omega) (by omega) hd (fun q cA H1 hK1 hP1 hD1 hS1 => ?_)
  have e1 : cA = cI := by
    have a1 : s.vm.findClass ("[" ++ FieldType.int.toString) = some cI := (hK1.2 0 (cI, .int) rfl).2
    have a2 : s.vm.findClass ("[" ++ FieldType.int.toString) = some cA := (hK1.2 1 (cA, .int) rfl).2
    exact Option.some.inj (a2.symm.trans a1)
  subst e1
  exact k q H1 locs ls hP1 hD1 hS1 hl
theorem qw_iast (hC : QWC X l0 D cI cc own nL d mc ms) (q0 : Nat) {a n kx : Nat} {f : Nat → Int32} {x v : Int32} {ws' : va_W} (he : ws[q0]? = some (a, .inl (cI, n, .inl f))) (hk : x.toNatClampNeg = kx) (hin : vp_in x n) (hw : ws.set q0 (a, .inl (cI, n, .inl (upd f kx v))) = ws') (hd : decode cc pc = .ok (.iastore, 1)) (k : QW X D nL ws' cells slots (pc + 1) lv st) : QW X D nL ws cells slots pc lv (.int v :: .int x :: .ref a :: st) := by
  obtain ⟨p, l, e, R, s, mid, args, below, meth, c, Q, A, _, _⟩ := X
  obtain ⟨⟨hl0, hx, hb, hlk, hml, hown⟩, hts, hK, hN, hAn, hR⟩ := hC
  subst hk
  subst hw
  intro H locs ls hP hDd hS hl
  exact va_iast hx hb hK hP hDd hS q0 0 he rfl hin hd (fun H1 locs1 hP1 hD1 hS1 => k H1 locs1 ls hP1 hD1 hS1 hl)
def qaPF (own : String) (index ci kk : Nat) (ty : FieldType) (fin : Bool) : Prop := ∃ (C ref : String) (T : u_T) (N : Nat) (ty0 : Nat → FieldType), (vwCl[ci]? = some (C, T, N) ∧ (∀ w ∈ u_ws C T N, w ∈ qaWL) ∧ kk < N ∧ Cond.fieldLink own index ref (T kk).2.1 (T kk).2.2.1 ∈ qaWL ∧ (T kk).1 = ref) ∧ (∀ k, k < N → parseFieldDescriptor (T k).2.2.1 = some (ty0 k)) ∧ (∀ a, a < N → ∀ b, b < N → a ≠ b → (T a).2.1 ≠ (T b).2.1) ∧ (T kk).2.2.2 = fin ∧ parseFieldDescriptor (T kk).2.2.1 = some ty ∧ (T kk).1 = own
theorem qw_putF (hC : QWC X l0 D cI cc own nL d mc ms) (hI : qaIni X) (q0 : Nat) {index ci kk a : Nat} {fs : List Value} {ty : FieldType} {v : Value} {ws' : va_W} (hf : qaPF own index ci kk ty true) (he : ws[q0]? = some (a, .inr (ci, fs))) (hn : narrow ty v = v) (hft : fits ty v = true) (hl0 : kk < fs.length) (hw : ws.set q0 (a, .inr (ci, fs.set kk v)) = ws') (hd : decode cc pc = .ok (.putfield index, 3)) (k : QW X D nL ws' cells slots (pc + 3) lv st) : QW X D nL ws cells slots pc lv (v :: .ref a :: st) := by
  obtain ⟨p, l, e, R, s, mid, args, below, meth, c, Q, A, _, _⟩ := X
  obtain ⟨⟨-, hx, hb, hlk, hml, hown⟩, hts, hK, hN, hAn, hR⟩ := hC
  obtain ⟨C, ref, T, N, ty0, ⟨hc, hin, hkN, hlink, href⟩, hty, hnm, hfin, hdd, hdecl⟩ := hf
  subst href
  subst hw
  intro H locs ls hP hDd hS hl
  exact va_putF hx hb hts hin ty0 hty hnm hown hK hP hDd hS q0 he hc kk hkN (hts _ hlink) (fun _ h => h) hfin hI hdecl hdd hn hft hl0 hd (fun H1 locs1 hP1 hD1 hS1 => k H1 locs1 ls hP1 hD1 hS1 hl)
theorem qw_put (hC : QWC X l0 D cI cc own nL d mc ms) (q0 : Nat) {index ci kk a : Nat} {fs : List Value} {ty : FieldType} {v : Value} {ws' : va_W} (hf : qaPF own index ci kk ty false) (he : ws[q0]? = some (a, .inr (ci, fs))) (hn : narrow ty v = v) (hft : fits ty v = true) (hl0 : kk < fs.length) (hw : ws.set q0 (a, .inr (ci, fs.set kk v)) = ws') (hd : decode cc pc = .ok (.putfield index, 3)) (k : QW X D nL ws' cells slots (pc + 3) lv st) : QW X D nL ws cells slots pc lv (v :: .ref a :: st) := by
  obtain ⟨p, l, e, R, s, mid, args, below, meth, c, Q, A, _, _⟩ := X
  obtain ⟨⟨-, hx, hb, hlk, hml, hown⟩, hts, hK, hN, hAn, hR⟩ := hC
  obtain ⟨C, ref, T, N, ty0, ⟨hc, hin, hkN, hlink, href⟩, hty, hnm, hfin, hdd, hdecl⟩ := hf
  subst href
  subst hw
  intro H locs ls hP hDd hS hl
  exact va_put hx hb hts hin ty0 hty hnm hown hK hP hDd hS q0 he hc kk hkN (hts _ hlink) (fun _ h => h) hfin hdd hn hft hl0 hd (fun H1 locs1 hP1 hD1 hS1 => k H1 locs1 ls hP1 hD1 hS1 hl)
theorem qw_getr (hC : QWC X l0 D cI cc own nL d mc ms) (q0 : Nat) {index ci kk a : Nat} {fs : List Value} {v : Value} (hf : qaFd own index ci kk) (he : ws[q0]? = some (a, .inr (ci, fs))) (hv : fs[kk]? = some v) (hd : decode cc pc = .ok (.getfield index, 3)) (k : QW X D nL ws cells slots (pc + 3) lv (v :: st)) : QW X D nL ws cells slots pc lv (.ref a :: st) := by
  obtain ⟨p, l, e, R, s, mid, args, below, meth, c, Q, A, _, _⟩ := X
  obtain ⟨⟨-, hx, hb, hlk, hml, hown⟩, hts, hK, hN, hAn, hR⟩ := hC
  obtain ⟨C, ref, T, N, hc, hin, hkN, hlink, href⟩ := hf
  subst href
  intro H locs ls hP hDd hS hl
  exact va_get hx hb hts hin hown hK hP q0 he hc kk hkN (hts _ hlink) (fun _ h => h) hv hd (k H locs ls hP hDd hS hl)
theorem qw_vret {S : Type} {post : S → va_W} (hC : QWC X l0 D cI cc own nL d mc ms) (hQ : QWR X D post mc ms) (u : S) (hu : post u = ws) (hc : cells = mc) (hs : slots = ms) (hd : decode cc pc = .ok (.return_, 1)) : QW X D nL ws cells slots pc lv [] := by
  obtain ⟨p, l, e, R, s, mid, args, below, meth, c, Q, A, _, _⟩ := X
  obtain ⟨⟨-, hx, hb, hlk, hml, hown⟩, hts, hK, hN, hAn, hR⟩ := hC
  subst hc
  subst hs
  intro H locs ls hP hDd hS hl
  obtain ⟨hr, rfl⟩ := hQ
  exact W.vret hx hb hr (fun t ht _ => ⟨⟨u, rfl, trivial, show va_P _ _ _ t.heap ∧ _ by rw [ht, hu]; exact ⟨hP, hDd⟩⟩, hS.F ht⟩) hS.2.2 hd hlk
theorem qw_call {S : Type} {post : S → va_W} (hC : QWC X l0 D cI cc own nL d mc ms) {index n nL2 d2 mc2 ms2 a : Nat} {y : MethodName} {b : ByteArray} {as stk : List Value} {wc wr : va_W} (isC isR : List Nat) (hM : qaMc l0 D cI y b nL2 d2 mc2 ms2 (.ref a :: as) wc post) (hlink : Cond.methodLink own index y ∈ qaWL) (hcode : Cond.code y b nL2 none ∈ qaWL) (hinst : Cond.instanceMethod y ∈ qaWL) (hini : Cond.initialized y.cls ∈ qaWL) (hnm : y.name = "<init>") (hdd : y.cls ≠ "java/lang/invoke/MethodHandle" ∧ y.cls ≠ "java/lang/invoke/VarHandle" ∧ (parseMethodDescriptor y.desc).map (fun d => d.parameters.length) = some n) (hn : as.length = n) (hst : as.reverse ++ .ref a :: st = stk)
    (hCc : isC.map (fun i => ws[i]?) = wc.map some) (hRr : isR.map (fun i => ws[i]?) = wr.map some) (hnC : va_nd isC = true) (hnR : va_nd isR = true) (hdis : ∀ i ∈ isR, i ∉ isC) (hd1 : d2 + 1 ≤ d) (hd2 : nL2 ≤ 40) (hc : cells + mc2 ≤ mc) (hs : slots + ms2 ≤ ms) (hrest : (st.map fun v => v.category).sum ≤ 8) (hd : decode cc pc = .ok (.invokespecial index, 3))
    (k : ∀ u : S, QW X D nL (wr ++ post u) (cells + mc2) (slots + ms2) (pc + 3) lv st) : QW X D nL ws cells slots pc lv stk := by
  obtain ⟨p, l, e, R, s, mid, args, below, meth, c, Q, A, _, _⟩ := X
  obtain ⟨⟨hl0, hx, hb, hlk, hml, hown⟩, hts, hK, hN, hAn, hR1, hR2, hR3, hR4⟩ := hC
  subst hl0
  subst hst
  intro H locs ls hP hDd hS hl
  have hPc : va_P D vwCl wc H := by
    intro k q hq
    have h1 : (isC.map (fun i => ws[i]?))[k]? = some (some q) := by rw [hCc, List.getElem?_map, hq]; rfl
    rw [List.getElem?_map] at h1
    cases hi : isC[k]? with
    | none => rw [hi] at h1; cases h1
    | some i => rw [hi] at h1; exact hP i q (Option.some.inj h1)
  have hDc := hDd.sub isC hnC hCc
  have hFc := va_free (wc := wc) hDd hS hAn isC hCc
  refine va_callv (va_runI (As := as) (rest := st) ⟨hx, hb, hml, hown, hts⟩ (hM H.size) (cwI n hts (qa_gi hcode) rfl rfl rfl (hts _ hini) (hts _ hlink) (hts _ hinst) hnm hdd ⟨by show d2 + 1 ≤ _; omega, by show 8 + (nL2 + 11) + 60 * d2 ≤ _; omega⟩) ⟨fun a U g mk q => ⟨q.1, q.2.blind⟩, fun U hU hW => ⟨rfl, by rw [hU], by rw [hU]; exact hPc, va_K.moved hW.alike hK, hDc.weaken (fun _ _ _ _ => trivial), hN.warm hW⟩⟩ rfl hn hl.1 rfl (lv_room hrest) hd ⟨by omega, by omega⟩) hS (fun q _ h => hFc q h) hFc (fun u t H1 locs1 ht hvm hw hB hz1 hk1 hS1 => ?_)
  obtain ⟨hP1, hD1⟩ := hB
  rw [ht] at hP1
  obtain ⟨hP2, hD2⟩ := va_join hP hDd isC isR hCc hRr hnR hdis hk1 hFc hP1 hD1
  exact k u H1 locs1 ls hP2 hD2 hS1 hl
theorem qw_callN {S : Type} {post : S → va_W} (hC : QWC X l0 D cI cc own nL d mc ms) {index n nL2 d2 mc2 ms2 a : Nat} {y : MethodName} {host : String} {b : ByteArray} {as stk : List Value} {wc wr : va_W} (isC isR : List Nat) (hM : qaMc l0 D cI y b nL2 d2 mc2 ms2 (.ref a :: as) wc post) (hlink : ∀ U : State, qaNf U → va_Nw (.methodLinkNest own index y host) U) (hcode : Cond.code y b nL2 none ∈ qaWL) (hinst : Cond.instanceMethod y ∈ qaWL) (hini : Cond.initialized y.cls ∈ qaWL) (hnm : y.name = "<init>") (hdd : y.cls ≠ "java/lang/invoke/MethodHandle" ∧ y.cls ≠ "java/lang/invoke/VarHandle" ∧ (parseMethodDescriptor y.desc).map (fun d => d.parameters.length) = some n) (hn : as.length = n) (hst : as.reverse ++ .ref a :: st = stk)
    (hCc : isC.map (fun i => ws[i]?) = wc.map some) (hRr : isR.map (fun i => ws[i]?) = wr.map some) (hnC : va_nd isC = true) (hnR : va_nd isR = true) (hdis : ∀ i ∈ isR, i ∉ isC) (hd1 : d2 + 1 ≤ d) (hd2 : nL2 ≤ 40) (hc : cells + mc2 ≤ mc) (hs : slots + ms2 ≤ ms) (hrest : (st.map fun v => v.category).sum ≤ 8) (hd : decode cc pc = .ok (.invokespecial index, 3))
    (k : ∀ u : S, QW X D nL (wr ++ post u) (cells + mc2) (slots + ms2) (pc + 3) lv st) : QW X D nL ws cells slots pc lv stk := by
  obtain ⟨p, l, e, R, s, mid, args, below, meth, c, Q, A, _, _⟩ := X
  obtain ⟨⟨hl0, hx, hb, hlk, hml, hown⟩, hts, hK, hN, hAn, hR1, hR2, hR3, hR4⟩ := hC
  subst hl0
  subst hst
  intro H locs ls hP hDd hS hl
  have hPc : va_P D vwCl wc H := by
    intro k q hq
    have h1 : (isC.map (fun i => ws[i]?))[k]? = some (some q) := by rw [hCc, List.getElem?_map, hq]; rfl
    rw [List.getElem?_map] at h1
    cases hi : isC[k]? with
    | none => rw [hi] at h1; cases h1
    | some i => rw [hi] at h1; exact hP i q (Option.some.inj h1)
  have hDc := hDd.sub isC hnC hCc
  have hFc := va_free (wc := wc) hDd hS hAn isC hCc
  refine va_callv (va_runIN (As := as) (rest := st) ⟨hx, hb, hml, hown, hts⟩ (hM H.size) ⟨va_cnB n hts (qa_gi hcode) rfl rfl rfl (hlink s hN) (hts _ hini) hdd ⟨by show d2 + 1 ≤ _; omega, by show 8 + (nL2 + 11) + 60 * d2 ≤ _; omega⟩, hnm, hts _ hinst⟩ ⟨fun a U g mk q => ⟨q.1, q.2.blind⟩, fun U hU hW => ⟨rfl, by rw [hU], by rw [hU]; exact hPc, va_K.moved hW.alike hK, hDc.weaken (fun _ _ _ _ => trivial), hN.warm hW⟩⟩ rfl hn hl.1 rfl (lv_room hrest) hd ⟨by omega, by omega⟩) hS (fun q _ h => hFc q h) hFc (fun u t H1 locs1 ht hvm hw hB hz1 hk1 hS1 => ?_)
  obtain ⟨hP1, hD1⟩ := hB
  rw [ht] at hP1
  obtain ⟨hP2, hD2⟩ := va_join hP hDd isC isR hCc hRr hnR hdis hk1 hFc hP1 hD1
  exact k u H1 locs1 ls hP2 hD2 hS1 hl
end
