/-! THE ROWS over QG, out of the kit's rows over W -/
section
variable {X : qaX} {l0 : Launch} {Y : qaY} {cc : ByteArray} {own : String} {nL D : Nat} {m : qaM} {pc : Nat} {lv : List (Nat × Value)} {st : List Value}
theorem qi_iconst (hC : QC X l0 Y cc own nL D) {n : Int} {v : Int32} (hd : decode cc pc = .ok (.iconst n, 1)) (hv : Int32.ofInt n = v) (k : QG X Y nL m (pc + 1) lv (.int v :: st)) : QG X Y nL m pc lv st := by
  obtain ⟨p, l, e, R, s, mid, args, below, meth, c, Q, A, cells, slots⟩ := X
  obtain ⟨⟨hl0, hx, hb, hlk, hml, hown⟩, hts, hK, hE, hI, hAi, hAn, hD1, hD2, hD3, hD4⟩ := hC
  intro H locs ls hP hS hl
  exact lv_iconst hx hb hd hv (k H locs ls hP hS hl)
theorem qi_bipush (hC : QC X l0 Y cc own nL D) {n : Int} {v : Int32} (hd : decode cc pc = .ok (.bipush n, 2)) (hv : (Int8.ofInt n).toInt32 = v) (k : QG X Y nL m (pc + 2) lv (.int v :: st)) : QG X Y nL m pc lv st := by
  obtain ⟨p, l, e, R, s, mid, args, below, meth, c, Q, A, cells, slots⟩ := X
  obtain ⟨⟨hl0, hx, hb, hlk, hml, hown⟩, hts, hK, hE, hI, hAi, hAn, hD1, hD2, hD3, hD4⟩ := hC
  intro H locs ls hP hS hl
  exact lv_bipush hx hb hd hv (k H locs ls hP hS hl)
theorem qi_sipush (hC : QC X l0 Y cc own nL D) {n : Int} {v : Int32} (hd : decode cc pc = .ok (.sipush n, 3)) (hv : (Int16.ofInt n).toInt32 = v) (k : QG X Y nL m (pc + 3) lv (.int v :: st)) : QG X Y nL m pc lv st := by
  obtain ⟨p, l, e, R, s, mid, args, below, meth, c, Q, A, cells, slots⟩ := X
  obtain ⟨⟨hl0, hx, hb, hlk, hml, hown⟩, hts, hK, hE, hI, hAi, hAn, hD1, hD2, hD3, hD4⟩ := hC
  intro H locs ls hP hS hl
  exact lv_sipush hx hb hd hv (k H locs ls hP hS hl)
theorem qi_lconst (hC : QC X l0 Y cc own nL D) {n : Fin 2} {v : Int64} (hd : decode cc pc = .ok (.lconst n, 1)) (hv : Int64.ofNat (n : Nat) = v) (k : QG X Y nL m (pc + 1) lv (.long v :: st)) : QG X Y nL m pc lv st := by
  obtain ⟨p, l, e, R, s, mid, args, below, meth, c, Q, A, cells, slots⟩ := X
  obtain ⟨⟨hl0, hx, hb, hlk, hml, hown⟩, hts, hK, hE, hI, hAi, hAn, hD1, hD2, hD3, hD4⟩ := hC
  intro H locs ls hP hS hl
  exact lv_lconst hx hb hd hv (k H locs ls hP hS hl)
theorem qi_ldc (hC : QC X l0 Y cc own nL D) {index : Nat} {v : Int32} (hc : Cond.constant own index v ∈ qaWL) (hd : decode cc pc = .ok (.ldc index, 2)) (k : QG X Y nL m (pc + 2) lv (.int v :: st)) : QG X Y nL m pc lv st := by
  obtain ⟨p, l, e, R, s, mid, args, below, meth, c, Q, A, cells, slots⟩ := X
  obtain ⟨⟨hl0, hx, hb, hlk, hml, hown⟩, hts, hK, hE, hI, hAi, hAn, hD1, hD2, hD3, hD4⟩ := hC
  intro H locs ls hP hS hl
  exact lv_ldc hx hb hown (hts _ hc) hd (k H locs ls hP hS hl)
theorem qi_ldcw (hC : QC X l0 Y cc own nL D) {index : Nat} {v : Int32} (hc : Cond.constant own index v ∈ qaWL) (hd : decode cc pc = .ok (.ldc_w index, 3)) (k : QG X Y nL m (pc + 3) lv (.int v :: st)) : QG X Y nL m pc lv st := by
  obtain ⟨p, l, e, R, s, mid, args, below, meth, c, Q, A, cells, slots⟩ := X
  obtain ⟨⟨hl0, hx, hb, hlk, hml, hown⟩, hts, hK, hE, hI, hAi, hAn, hD1, hD2, hD3, hD4⟩ := hC
  intro H locs ls hP hS hl
  exact lv_ldcw hx hb hown (hts _ hc) hd (k H locs ls hP hS hl)
theorem qi_ldc2 (hC : QC X l0 Y cc own nL D) {index : Nat} {v : Int64} (hc : Cond.constantLong own index v ∈ qaWL) (hd : decode cc pc = .ok (.ldc2_w index, 3)) (k : QG X Y nL m (pc + 3) lv (.long v :: st)) : QG X Y nL m pc lv st := by
  obtain ⟨p, l, e, R, s, mid, args, below, meth, c, Q, A, cells, slots⟩ := X
  obtain ⟨⟨hl0, hx, hb, hlk, hml, hown⟩, hts, hK, hE, hI, hAi, hAn, hD1, hD2, hD3, hD4⟩ := hC
  intro H locs ls hP hS hl
  exact lv_ldc2 hx hb hown (hts _ hc) hd (k H locs ls hP hS hl)
theorem qi_ldcS (hC : QC X l0 Y cc own nL D) {i : Nat} (hi : i < 12) (ho : own = "AlwaysTheTopTwo$Tape") (hd : decode cc pc = .ok (.ldc (100 + 2 * i), 2)) (k : QG X Y nL m (pc + 2) lv (.ref (Y.2.2.2 (1 + i)) :: st)) : QG X Y nL m pc lv st := by
  obtain ⟨p, l, e, R, s, mid, args, below, meth, c, Q, A, cells, slots⟩ := X
  obtain ⟨⟨hl0, hx, hb, hlk, hml, hown⟩, hts, hK, hE, hI, hAi, hAn, hD1, hD2, hD3, hD4⟩ := hC
  intro H locs ls hP hS hl
  subst ho
  exact va_ldcS hx hb hown (hE.2.2.2.2.2.1 i hi) hd (k H locs ls hP hS hl)
theorem qi_iload_n (hC : QC X l0 Y cc own nL D) {kf : Fin 4} {i : Nat} {x : Int32} (q : Nat) (hq : lv[q]? = some (i, .int x)) (hi : (kf : Nat) = i) (hd : decode cc pc = .ok (.iload_n kf, 1)) (k : QG X Y nL m (pc + 1) lv (.int x :: st)) : QG X Y nL m pc lv st := by
  obtain ⟨p, l, e, R, s, mid, args, below, meth, c, Q, A, cells, slots⟩ := X
  obtain ⟨⟨hl0, hx, hb, hlk, hml, hown⟩, hts, hK, hE, hI, hAi, hAn, hD1, hD2, hD3, hD4⟩ := hC
  intro H locs ls hP hS hl
  exact lv_iload_n hx hb hd hi (lv_at hl q hq) (k H locs ls hP hS hl)
theorem qi_iload (hC : QC X l0 Y cc own nL D) {i : Nat} {x : Int32} (q : Nat) (hq : lv[q]? = some (i, .int x)) (hd : decode cc pc = .ok (.iload i, 2)) (k : QG X Y nL m (pc + 2) lv (.int x :: st)) : QG X Y nL m pc lv st := by
  obtain ⟨p, l, e, R, s, mid, args, below, meth, c, Q, A, cells, slots⟩ := X
  obtain ⟨⟨hl0, hx, hb, hlk, hml, hown⟩, hts, hK, hE, hI, hAi, hAn, hD1, hD2, hD3, hD4⟩ := hC
  intro H locs ls hP hS hl
  exact lv_iload hx hb hd (lv_at hl q hq) (k H locs ls hP hS hl)
theorem qi_istore_n (hC : QC X l0 Y cc own nL D) {kf : Fin 4} {i : Nat} {x : Int32} {lv' : List (Nat × Value)} (hi : (kf : Nat) = i) (hn : i < nL) (hv : (i, Value.int x) :: lv.filter (fun q => !(q.1 == i) && !(q.1 + 1 == i && q.2.category == 2)) = lv') (hd : decode cc pc = .ok (.istore_n kf, 1)) (k : QG X Y nL m (pc + 1) lv' st) : QG X Y nL m pc lv (.int x :: st) := by
  obtain ⟨p, l, e, R, s, mid, args, below, meth, c, Q, A, cells, slots⟩ := X
  obtain ⟨⟨hl0, hx, hb, hlk, hml, hown⟩, hts, hK, hE, hI, hAi, hAn, hD1, hD2, hD3, hD4⟩ := hC
  intro H locs ls hP hS hl
  exact lv_istore_n hx hb hd hi hl hn hv (fun ls' hl' => k H locs ls' hP hS hl')
theorem qi_istore (hC : QC X l0 Y cc own nL D) {i : Nat} {x : Int32} {lv' : List (Nat × Value)} (hn : i < nL) (hv : (i, Value.int x) :: lv.filter (fun q => !(q.1 == i) && !(q.1 + 1 == i && q.2.category == 2)) = lv') (hd : decode cc pc = .ok (.istore i, 2)) (k : QG X Y nL m (pc + 2) lv' st) : QG X Y nL m pc lv (.int x :: st) := by
  obtain ⟨p, l, e, R, s, mid, args, below, meth, c, Q, A, cells, slots⟩ := X
  obtain ⟨⟨hl0, hx, hb, hlk, hml, hown⟩, hts, hK, hE, hI, hAi, hAn, hD1, hD2, hD3, hD4⟩ := hC
  intro H locs ls hP hS hl
  exact lv_istore hx hb hd hl hn hv (fun ls' hl' => k H locs ls' hP hS hl')
theorem qi_lload_n (hC : QC X l0 Y cc own nL D) {kf : Fin 4} {i : Nat} {x : Int64} (q : Nat) (hq : lv[q]? = some (i, .long x)) (hi : (kf : Nat) = i) (hd : decode cc pc = .ok (.lload_n kf, 1)) (k : QG X Y nL m (pc + 1) lv (.long x :: st)) : QG X Y nL m pc lv st := by
  obtain ⟨p, l, e, R, s, mid, args, below, meth, c, Q, A, cells, slots⟩ := X
  obtain ⟨⟨hl0, hx, hb, hlk, hml, hown⟩, hts, hK, hE, hI, hAi, hAn, hD1, hD2, hD3, hD4⟩ := hC
  intro H locs ls hP hS hl
  exact lv_lload_n hx hb hd hi (lv_at hl q hq) (k H locs ls hP hS hl)
theorem qi_lload (hC : QC X l0 Y cc own nL D) {i : Nat} {x : Int64} (q : Nat) (hq : lv[q]? = some (i, .long x)) (hd : decode cc pc = .ok (.lload i, 2)) (k : QG X Y nL m (pc + 2) lv (.long x :: st)) : QG X Y nL m pc lv st := by
  obtain ⟨p, l, e, R, s, mid, args, below, meth, c, Q, A, cells, slots⟩ := X
  obtain ⟨⟨hl0, hx, hb, hlk, hml, hown⟩, hts, hK, hE, hI, hAi, hAn, hD1, hD2, hD3, hD4⟩ := hC
  intro H locs ls hP hS hl
  exact lv_lload hx hb hd (lv_at hl q hq) (k H locs ls hP hS hl)
theorem qi_lstore_n (hC : QC X l0 Y cc own nL D) {kf : Fin 4} {i : Nat} {x : Int64} {lv' : List (Nat × Value)} (hi : (kf : Nat) = i) (hn : i + 1 < nL) (hv : (i, Value.long x) :: lv.filter (fun q => !(q.1 == i) && (!(q.1 == i + 1) && !(q.1 + 1 == i && q.2.category == 2))) = lv') (hd : decode cc pc = .ok (.lstore_n kf, 1)) (k : QG X Y nL m (pc + 1) lv' st) : QG X Y nL m pc lv (.long x :: st) := by
  obtain ⟨p, l, e, R, s, mid, args, below, meth, c, Q, A, cells, slots⟩ := X
  obtain ⟨⟨hl0, hx, hb, hlk, hml, hown⟩, hts, hK, hE, hI, hAi, hAn, hD1, hD2, hD3, hD4⟩ := hC
  intro H locs ls hP hS hl
  exact lv_lstore_n hx hb hd hi hl hn hv (fun ls' hl' => k H locs ls' hP hS hl')
theorem qi_lstore (hC : QC X l0 Y cc own nL D) {i : Nat} {x : Int64} {lv' : List (Nat × Value)} (hn : i + 1 < nL) (hv : (i, Value.long x) :: lv.filter (fun q => !(q.1 == i) && (!(q.1 == i + 1) && !(q.1 + 1 == i && q.2.category == 2))) = lv') (hd : decode cc pc = .ok (.lstore i, 2)) (k : QG X Y nL m (pc + 2) lv' st) : QG X Y nL m pc lv (.long x :: st) := by
  obtain ⟨p, l, e, R, s, mid, args, below, meth, c, Q, A, cells, slots⟩ := X
  obtain ⟨⟨hl0, hx, hb, hlk, hml, hown⟩, hts, hK, hE, hI, hAi, hAn, hD1, hD2, hD3, hD4⟩ := hC
  intro H locs ls hP hS hl
  exact lv_lstore hx hb hd hl hn hv (fun ls' hl' => k H locs ls' hP hS hl')
theorem qi_aload_n (hC : QC X l0 Y cc own nL D) {kf : Fin 4} {i : Nat} {x : Nat} (q : Nat) (hq : lv[q]? = some (i, .ref x)) (hi : (kf : Nat) = i) (hd : decode cc pc = .ok (.aload_n kf, 1)) (k : QG X Y nL m (pc + 1) lv (.ref x :: st)) : QG X Y nL m pc lv st := by
  obtain ⟨p, l, e, R, s, mid, args, below, meth, c, Q, A, cells, slots⟩ := X
  obtain ⟨⟨hl0, hx, hb, hlk, hml, hown⟩, hts, hK, hE, hI, hAi, hAn, hD1, hD2, hD3, hD4⟩ := hC
  intro H locs ls hP hS hl
  exact lv_aload_n hx hb hd hi (lv_at hl q hq) (k H locs ls hP hS hl)
theorem qi_aload (hC : QC X l0 Y cc own nL D) {i : Nat} {x : Nat} (q : Nat) (hq : lv[q]? = some (i, .ref x)) (hd : decode cc pc = .ok (.aload i, 2)) (k : QG X Y nL m (pc + 2) lv (.ref x :: st)) : QG X Y nL m pc lv st := by
  obtain ⟨p, l, e, R, s, mid, args, below, meth, c, Q, A, cells, slots⟩ := X
  obtain ⟨⟨hl0, hx, hb, hlk, hml, hown⟩, hts, hK, hE, hI, hAi, hAn, hD1, hD2, hD3, hD4⟩ := hC
  intro H locs ls hP hS hl
  exact lv_aload hx hb hd (lv_at hl q hq) (k H locs ls hP hS hl)
theorem qi_astore_n (hC : QC X l0 Y cc own nL D) {kf : Fin 4} {i : Nat} {x : Nat} {lv' : List (Nat × Value)} (hi : (kf : Nat) = i) (hn : i < nL) (hv : (i, Value.ref x) :: lv.filter (fun q => !(q.1 == i) && !(q.1 + 1 == i && q.2.category == 2)) = lv') (hd : decode cc pc = .ok (.astore_n kf, 1)) (k : QG X Y nL m (pc + 1) lv' st) : QG X Y nL m pc lv (.ref x :: st) := by
  obtain ⟨p, l, e, R, s, mid, args, below, meth, c, Q, A, cells, slots⟩ := X
  obtain ⟨⟨hl0, hx, hb, hlk, hml, hown⟩, hts, hK, hE, hI, hAi, hAn, hD1, hD2, hD3, hD4⟩ := hC
  intro H locs ls hP hS hl
  exact lv_astore_n hx hb hd hi hl hn hv (fun ls' hl' => k H locs ls' hP hS hl')
theorem qi_astore (hC : QC X l0 Y cc own nL D) {i : Nat} {x : Nat} {lv' : List (Nat × Value)} (hn : i < nL) (hv : (i, Value.ref x) :: lv.filter (fun q => !(q.1 == i) && !(q.1 + 1 == i && q.2.category == 2)) = lv') (hd : decode cc pc = .ok (.astore i, 2)) (k : QG X Y nL m (pc + 2) lv' st) : QG X Y nL m pc lv (.ref x :: st) := by
  obtain ⟨p, l, e, R, s, mid, args, below, meth, c, Q, A, cells, slots⟩ := X
  obtain ⟨⟨hl0, hx, hb, hlk, hml, hown⟩, hts, hK, hE, hI, hAi, hAn, hD1, hD2, hD3, hD4⟩ := hC
  intro H locs ls hP hS hl
  exact lv_astore hx hb hd hl hn hv (fun ls' hl' => k H locs ls' hP hS hl')
theorem qi_iinc (hC : QC X l0 Y cc own nL D) {i : Nat} {n : Int} {x v : Int32} {lv' : List (Nat × Value)} (q : Nat) (hq : lv[q]? = some (i, .int x)) (he : x + Int32.ofInt n = v) (hn : i < nL) (hv : (i, Value.int v) :: lv.filter (fun q => !(q.1 == i) && !(q.1 + 1 == i && q.2.category == 2)) = lv') (hd : decode cc pc = .ok (.iinc i n, 3)) (k : QG X Y nL m (pc + 3) lv' st) : QG X Y nL m pc lv st := by
  obtain ⟨p, l, e, R, s, mid, args, below, meth, c, Q, A, cells, slots⟩ := X
  obtain ⟨⟨hl0, hx, hb, hlk, hml, hown⟩, hts, hK, hE, hI, hAi, hAn, hD1, hD2, hD3, hD4⟩ := hC
  intro H locs ls hP hS hl
  exact lv_iinc hx hb hd hl (k := q) hq he hn hv (fun ls' hl' => k H locs ls' hP hS hl')
theorem qi_iadd (hC : QC X l0 Y cc own nL D) {x y : Int32} (hd : decode cc pc = .ok (.iadd, 1)) (k : QG X Y nL m (pc + 1) lv (.int (x + y) :: st)) : QG X Y nL m pc lv (.int y :: .int x :: st) := by
  obtain ⟨p, l, e, R, s, mid, args, below, meth, c, Q, A, cells, slots⟩ := X
  obtain ⟨⟨hl0, hx, hb, hlk, hml, hown⟩, hts, hK, hE, hI, hAi, hAn, hD1, hD2, hD3, hD4⟩ := hC
  intro H locs ls hP hS hl
  exact lv_iadd hx hb hd (k H locs ls hP hS hl)
theorem qi_isub (hC : QC X l0 Y cc own nL D) {x y : Int32} (hd : decode cc pc = .ok (.isub, 1)) (k : QG X Y nL m (pc + 1) lv (.int (x - y) :: st)) : QG X Y nL m pc lv (.int y :: .int x :: st) := by
  obtain ⟨p, l, e, R, s, mid, args, below, meth, c, Q, A, cells, slots⟩ := X
  obtain ⟨⟨hl0, hx, hb, hlk, hml, hown⟩, hts, hK, hE, hI, hAi, hAn, hD1, hD2, hD3, hD4⟩ := hC
  intro H locs ls hP hS hl
  exact lv_isub hx hb hd (k H locs ls hP hS hl)
theorem qi_imul (hC : QC X l0 Y cc own nL D) {x y : Int32} (hd : decode cc pc = .ok (.imul, 1)) (k : QG X Y nL m (pc + 1) lv (.int (x * y) :: st)) : QG X Y nL m pc lv (.int y :: .int x :: st) := by
  obtain ⟨p, l, e, R, s, mid, args, below, meth, c, Q, A, cells, slots⟩ := X
  obtain ⟨⟨hl0, hx, hb, hlk, hml, hown⟩, hts, hK, hE, hI, hAi, hAn, hD1, hD2, hD3, hD4⟩ := hC
  intro H locs ls hP hS hl
  exact lv_imul hx hb hd (k H locs ls hP hS hl)
theorem qi_iand (hC : QC X l0 Y cc own nL D) {x y : Int32} (hd : decode cc pc = .ok (.iand, 1)) (k : QG X Y nL m (pc + 1) lv (.int (x &&& y) :: st)) : QG X Y nL m pc lv (.int y :: .int x :: st) := by
  obtain ⟨p, l, e, R, s, mid, args, below, meth, c, Q, A, cells, slots⟩ := X
  obtain ⟨⟨hl0, hx, hb, hlk, hml, hown⟩, hts, hK, hE, hI, hAi, hAn, hD1, hD2, hD3, hD4⟩ := hC
  intro H locs ls hP hS hl
  exact lv_iand hx hb hd (k H locs ls hP hS hl)
theorem qi_ior (hC : QC X l0 Y cc own nL D) {x y : Int32} (hd : decode cc pc = .ok (.ior, 1)) (k : QG X Y nL m (pc + 1) lv (.int (x ||| y) :: st)) : QG X Y nL m pc lv (.int y :: .int x :: st) := by
  obtain ⟨p, l, e, R, s, mid, args, below, meth, c, Q, A, cells, slots⟩ := X
  obtain ⟨⟨hl0, hx, hb, hlk, hml, hown⟩, hts, hK, hE, hI, hAi, hAn, hD1, hD2, hD3, hD4⟩ := hC
  intro H locs ls hP hS hl
  exact lv_ior hx hb hd (k H locs ls hP hS hl)
theorem qi_ixor (hC : QC X l0 Y cc own nL D) {x y : Int32} (hd : decode cc pc = .ok (.ixor, 1)) (k : QG X Y nL m (pc + 1) lv (.int (x ^^^ y) :: st)) : QG X Y nL m pc lv (.int y :: .int x :: st) := by
  obtain ⟨p, l, e, R, s, mid, args, below, meth, c, Q, A, cells, slots⟩ := X
  obtain ⟨⟨hl0, hx, hb, hlk, hml, hown⟩, hts, hK, hE, hI, hAi, hAn, hD1, hD2, hD3, hD4⟩ := hC
  intro H locs ls hP hS hl
  exact lv_ixor hx hb hd (k H locs ls hP hS hl)
theorem qi_idiv (hC : QC X l0 Y cc own nL D) {x y : Int32} (hne : ¬ y = 0) (hd : decode cc pc = .ok (.idiv, 1)) (k : QG X Y nL m (pc + 1) lv (.int (x / y) :: st)) : QG X Y nL m pc lv (.int y :: .int x :: st) := by
  obtain ⟨p, l, e, R, s, mid, args, below, meth, c, Q, A, cells, slots⟩ := X
  obtain ⟨⟨hl0, hx, hb, hlk, hml, hown⟩, hts, hK, hE, hI, hAi, hAn, hD1, hD2, hD3, hD4⟩ := hC
  intro H locs ls hP hS hl
  exact lv_idiv hx hb hd hne (k H locs ls hP hS hl)
theorem qi_irem (hC : QC X l0 Y cc own nL D) {x y : Int32} (hne : ¬ y = 0) (hd : decode cc pc = .ok (.irem, 1)) (k : QG X Y nL m (pc + 1) lv (.int (x - x / y * y) :: st)) : QG X Y nL m pc lv (.int y :: .int x :: st) := by
  obtain ⟨p, l, e, R, s, mid, args, below, meth, c, Q, A, cells, slots⟩ := X
  obtain ⟨⟨hl0, hx, hb, hlk, hml, hown⟩, hts, hK, hE, hI, hAi, hAn, hD1, hD2, hD3, hD4⟩ := hC
  intro H locs ls hP hS hl
  exact lv_irem hx hb hd hne (k H locs ls hP hS hl)
theorem qi_ineg (hC : QC X l0 Y cc own nL D) {x : Int32} (hd : decode cc pc = .ok (.ineg, 1)) (k : QG X Y nL m (pc + 1) lv (.int (-x) :: st)) : QG X Y nL m pc lv (.int x :: st) := by
  obtain ⟨p, l, e, R, s, mid, args, below, meth, c, Q, A, cells, slots⟩ := X
  obtain ⟨⟨hl0, hx, hb, hlk, hml, hown⟩, hts, hK, hE, hI, hAi, hAn, hD1, hD2, hD3, hD4⟩ := hC
  intro H locs ls hP hS hl
  exact lv_ineg hx hb hd (k H locs ls hP hS hl)
theorem qi_ladd (hC : QC X l0 Y cc own nL D) {x y : Int64} (hd : decode cc pc = .ok (.ladd, 1)) (k : QG X Y nL m (pc + 1) lv (.long (x + y) :: st)) : QG X Y nL m pc lv (.long y :: .long x :: st) := by
  obtain ⟨p, l, e, R, s, mid, args, below, meth, c, Q, A, cells, slots⟩ := X
  obtain ⟨⟨hl0, hx, hb, hlk, hml, hown⟩, hts, hK, hE, hI, hAi, hAn, hD1, hD2, hD3, hD4⟩ := hC
  intro H locs ls hP hS hl
  exact lv_ladd hx hb hd (k H locs ls hP hS hl)
theorem qi_lmul (hC : QC X l0 Y cc own nL D) {x y : Int64} (hd : decode cc pc = .ok (.lmul, 1)) (k : QG X Y nL m (pc + 1) lv (.long (x * y) :: st)) : QG X Y nL m pc lv (.long y :: .long x :: st) := by
  obtain ⟨p, l, e, R, s, mid, args, below, meth, c, Q, A, cells, slots⟩ := X
  obtain ⟨⟨hl0, hx, hb, hlk, hml, hown⟩, hts, hK, hE, hI, hAi, hAn, hD1, hD2, hD3, hD4⟩ := hC
  intro H locs ls hP hS hl
  exact lv_lmul hx hb hd (k H locs ls hP hS hl)
theorem qi_ldiv (hC : QC X l0 Y cc own nL D) {x y : Int64} (hne : ¬ y = 0) (hd : decode cc pc = .ok (.ldiv, 1)) (k : QG X Y nL m (pc + 1) lv (.long (x / y) :: st)) : QG X Y nL m pc lv (.long y :: .long x :: st) := by
  obtain ⟨p, l, e, R, s, mid, args, below, meth, c, Q, A, cells, slots⟩ := X
  obtain ⟨⟨hl0, hx, hb, hlk, hml, hown⟩, hts, hK, hE, hI, hAi, hAn, hD1, hD2, hD3, hD4⟩ := hC
  intro H locs ls hP hS hl
  exact lv_ldiv hx hb hd hne (k H locs ls hP hS hl)
theorem qi_lrem (hC : QC X l0 Y cc own nL D) {x y : Int64} (hne : ¬ y = 0) (hd : decode cc pc = .ok (.lrem, 1)) (k : QG X Y nL m (pc + 1) lv (.long (x - x / y * y) :: st)) : QG X Y nL m pc lv (.long y :: .long x :: st) := by
  obtain ⟨p, l, e, R, s, mid, args, below, meth, c, Q, A, cells, slots⟩ := X
  obtain ⟨⟨hl0, hx, hb, hlk, hml, hown⟩, hts, hK, hE, hI, hAi, hAn, hD1, hD2, hD3, hD4⟩ := hC
  intro H locs ls hP hS hl
  exact lv_lrem hx hb hd hne (k H locs ls hP hS hl)
theorem qi_ishl (hC : QC X l0 Y cc own nL D) {x y : Int32} (hd : decode cc pc = .ok (.ishl, 1)) (k : QG X Y nL m (pc + 1) lv (.int (x <<< (y &&& 31)) :: st)) : QG X Y nL m pc lv (.int y :: .int x :: st) := by
  obtain ⟨p, l, e, R, s, mid, args, below, meth, c, Q, A, cells, slots⟩ := X
  obtain ⟨⟨hl0, hx, hb, hlk, hml, hown⟩, hts, hK, hE, hI, hAi, hAn, hD1, hD2, hD3, hD4⟩ := hC
  intro H locs ls hP hS hl
  exact lv_ishl hx hb hd (k H locs ls hP hS hl)
theorem qi_ishr (hC : QC X l0 Y cc own nL D) {x y : Int32} (hd : decode cc pc = .ok (.ishr, 1)) (k : QG X Y nL m (pc + 1) lv (.int (x >>> (y &&& 31)) :: st)) : QG X Y nL m pc lv (.int y :: .int x :: st) := by
  obtain ⟨p, l, e, R, s, mid, args, below, meth, c, Q, A, cells, slots⟩ := X
  obtain ⟨⟨hl0, hx, hb, hlk, hml, hown⟩, hts, hK, hE, hI, hAi, hAn, hD1, hD2, hD3, hD4⟩ := hC
  intro H locs ls hP hS hl
  exact lv_ishr hx hb hd (k H locs ls hP hS hl)
theorem qi_i2l (hC : QC X l0 Y cc own nL D) {x : Int32} (hd : decode cc pc = .ok (.i2l, 1)) (k : QG X Y nL m (pc + 1) lv (.long x.toInt64 :: st)) : QG X Y nL m pc lv (.int x :: st) := by
  obtain ⟨p, l, e, R, s, mid, args, below, meth, c, Q, A, cells, slots⟩ := X
  obtain ⟨⟨hl0, hx, hb, hlk, hml, hown⟩, hts, hK, hE, hI, hAi, hAn, hD1, hD2, hD3, hD4⟩ := hC
  intro H locs ls hP hS hl
  exact lv_i2l hx hb hd rfl (k H locs ls hP hS hl)
theorem qi_i2b (hC : QC X l0 Y cc own nL D) {x : Int32} (hd : decode cc pc = .ok (.i2b, 1)) (k : QG X Y nL m (pc + 1) lv (.int x.toInt8.toInt32 :: st)) : QG X Y nL m pc lv (.int x :: st) := by
  obtain ⟨p, l, e, R, s, mid, args, below, meth, c, Q, A, cells, slots⟩ := X
  obtain ⟨⟨hl0, hx, hb, hlk, hml, hown⟩, hts, hK, hE, hI, hAi, hAn, hD1, hD2, hD3, hD4⟩ := hC
  intro H locs ls hP hS hl
  exact lv_i2b hx hb hd rfl (k H locs ls hP hS hl)
theorem qi_i2s (hC : QC X l0 Y cc own nL D) {x : Int32} (hd : decode cc pc = .ok (.i2s, 1)) (k : QG X Y nL m (pc + 1) lv (.int x.toInt16.toInt32 :: st)) : QG X Y nL m pc lv (.int x :: st) := by
  obtain ⟨p, l, e, R, s, mid, args, below, meth, c, Q, A, cells, slots⟩ := X
  obtain ⟨⟨hl0, hx, hb, hlk, hml, hown⟩, hts, hK, hE, hI, hAi, hAn, hD1, hD2, hD3, hD4⟩ := hC
  intro H locs ls hP hS hl
  exact lv_i2s hx hb hd rfl (k H locs ls hP hS hl)
theorem qi_lcmp (hC : QC X l0 Y cc own nL D) {x y : Int64} (hd : decode cc pc = .ok (.lcmp, 1)) (k : QG X Y nL m (pc + 1) lv (.int (lg_cmp x y) :: st)) : QG X Y nL m pc lv (.long y :: .long x :: st) := by
  obtain ⟨p, l, e, R, s, mid, args, below, meth, c, Q, A, cells, slots⟩ := X
  obtain ⟨⟨hl0, hx, hb, hlk, hml, hown⟩, hts, hK, hE, hI, hAi, hAn, hD1, hD2, hD3, hD4⟩ := hC
  intro H locs ls hP hS hl
  exact W.lcmp hx hb hd (k H locs ls hP hS hl)
theorem qi_dup (hC : QC X l0 Y cc own nL D) {v : Value} (hv : v.category = 1) (hd : decode cc pc = .ok (.dup, 1)) (k : QG X Y nL m (pc + 1) lv (v :: v :: st)) : QG X Y nL m pc lv (v :: st) := by
  obtain ⟨p, l, e, R, s, mid, args, below, meth, c, Q, A, cells, slots⟩ := X
  obtain ⟨⟨hl0, hx, hb, hlk, hml, hown⟩, hts, hK, hE, hI, hAi, hAn, hD1, hD2, hD3, hD4⟩ := hC
  intro H locs ls hP hS hl
  exact lv_dup hx hb hd hv (k H locs ls hP hS hl)
theorem qi_pop (hC : QC X l0 Y cc own nL D) {v : Value} (hv : v.category = 1) (hd : decode cc pc = .ok (.pop, 1)) (k : QG X Y nL m (pc + 1) lv st) : QG X Y nL m pc lv (v :: st) := by
  obtain ⟨p, l, e, R, s, mid, args, below, meth, c, Q, A, cells, slots⟩ := X
  obtain ⟨⟨hl0, hx, hb, hlk, hml, hown⟩, hts, hK, hE, hI, hAi, hAn, hD1, hD2, hD3, hD4⟩ := hC
  intro H locs ls hP hS hl
  exact lv_pop hx hb hd hv (k H locs ls hP hS hl)
theorem qi_dup2 (hC : QC X l0 Y cc own nL D) {v w : Value} (hv : v.category = 1) (hw : w.category = 1) (hd : decode cc pc = .ok (.dup2, 1)) (k : QG X Y nL m (pc + 1) lv (v :: w :: v :: w :: st)) : QG X Y nL m pc lv (v :: w :: st) := by
  obtain ⟨p, l, e, R, s, mid, args, below, meth, c, Q, A, cells, slots⟩ := X
  obtain ⟨⟨hl0, hx, hb, hlk, hml, hown⟩, hts, hK, hE, hI, hAi, hAn, hD1, hD2, hD3, hD4⟩ := hC
  intro H locs ls hP hS hl
  exact lv_dup2_11 hx hb hd hv hw (k H locs ls hP hS hl)
theorem qi_if_eq (hC : QC X l0 Y cc own nL D) {x : Int32} {off : Int} {tgt : Nat} (ht : (pc : Int) + off = (tgt : Int)) (hd : decode cc pc = .ok (.ifCond .eq off, 3)) (kt : (x = 0) → QG X Y nL m tgt lv st) (kf : ¬ (x = 0) → QG X Y nL m (pc + 3) lv st) : QG X Y nL m pc lv (.int x :: st) := by
  obtain ⟨p, l, e, R, s, mid, args, below, meth, c, Q, A, cells, slots⟩ := X
  obtain ⟨⟨hl0, hx, hb, hlk, hml, hown⟩, hts, hK, hE, hI, hAi, hAn, hD1, hD2, hD3, hD4⟩ := hC
  intro H locs ls hP hS hl
  exact lv_if_eq hx hb hd ht (fun h => kt h H locs ls hP hS hl) (fun h => kf h H locs ls hP hS hl)
theorem qi_icmp_eq (hC : QC X l0 Y cc own nL D) {x y : Int32} {off : Int} {tgt : Nat} (ht : (pc : Int) + off = (tgt : Int)) (hd : decode cc pc = .ok (.if_icmp .eq off, 3)) (kt : (x = y) → QG X Y nL m tgt lv st) (kf : ¬ (x = y) → QG X Y nL m (pc + 3) lv st) : QG X Y nL m pc lv (.int y :: .int x :: st) := by
  obtain ⟨p, l, e, R, s, mid, args, below, meth, c, Q, A, cells, slots⟩ := X
  obtain ⟨⟨hl0, hx, hb, hlk, hml, hown⟩, hts, hK, hE, hI, hAi, hAn, hD1, hD2, hD3, hD4⟩ := hC
  intro H locs ls hP hS hl
  exact lv_icmp_eq hx hb hd ht (fun h => kt h H locs ls hP hS hl) (fun h => kf h H locs ls hP hS hl)
theorem qi_if_ne (hC : QC X l0 Y cc own nL D) {x : Int32} {off : Int} {tgt : Nat} (ht : (pc : Int) + off = (tgt : Int)) (hd : decode cc pc = .ok (.ifCond .ne off, 3)) (kt : (¬ x = 0) → QG X Y nL m tgt lv st) (kf : x = 0 → QG X Y nL m (pc + 3) lv st) : QG X Y nL m pc lv (.int x :: st) := by
  obtain ⟨p, l, e, R, s, mid, args, below, meth, c, Q, A, cells, slots⟩ := X
  obtain ⟨⟨hl0, hx, hb, hlk, hml, hown⟩, hts, hK, hE, hI, hAi, hAn, hD1, hD2, hD3, hD4⟩ := hC
  intro H locs ls hP hS hl
  exact lv_if_ne hx hb hd ht (fun h => kt h H locs ls hP hS hl) (fun h => kf h H locs ls hP hS hl)
theorem qi_icmp_ne (hC : QC X l0 Y cc own nL D) {x y : Int32} {off : Int} {tgt : Nat} (ht : (pc : Int) + off = (tgt : Int)) (hd : decode cc pc = .ok (.if_icmp .ne off, 3)) (kt : (¬ x = y) → QG X Y nL m tgt lv st) (kf : x = y → QG X Y nL m (pc + 3) lv st) : QG X Y nL m pc lv (.int y :: .int x :: st) := by
  obtain ⟨p, l, e, R, s, mid, args, below, meth, c, Q, A, cells, slots⟩ := X
  obtain ⟨⟨hl0, hx, hb, hlk, hml, hown⟩, hts, hK, hE, hI, hAi, hAn, hD1, hD2, hD3, hD4⟩ := hC
  intro H locs ls hP hS hl
  exact lv_icmp_ne hx hb hd ht (fun h => kt h H locs ls hP hS hl) (fun h => kf h H locs ls hP hS hl)
theorem qi_if_lt (hC : QC X l0 Y cc own nL D) {x : Int32} {off : Int} {tgt : Nat} (ht : (pc : Int) + off = (tgt : Int)) (hd : decode cc pc = .ok (.ifCond .lt off, 3)) (kt : (x < 0) → QG X Y nL m tgt lv st) (kf : ¬ (x < 0) → QG X Y nL m (pc + 3) lv st) : QG X Y nL m pc lv (.int x :: st) := by
  obtain ⟨p, l, e, R, s, mid, args, below, meth, c, Q, A, cells, slots⟩ := X
  obtain ⟨⟨hl0, hx, hb, hlk, hml, hown⟩, hts, hK, hE, hI, hAi, hAn, hD1, hD2, hD3, hD4⟩ := hC
  intro H locs ls hP hS hl
  exact lv_if_lt hx hb hd ht (fun h => kt h H locs ls hP hS hl) (fun h => kf h H locs ls hP hS hl)
theorem qi_icmp_lt (hC : QC X l0 Y cc own nL D) {x y : Int32} {off : Int} {tgt : Nat} (ht : (pc : Int) + off = (tgt : Int)) (hd : decode cc pc = .ok (.if_icmp .lt off, 3)) (kt : (x < y) → QG X Y nL m tgt lv st) (kf : ¬ (x < y) → QG X Y nL m (pc + 3) lv st) : QG X Y nL m pc lv (.int y :: .int x :: st) := by
  obtain ⟨p, l, e, R, s, mid, args, below, meth, c, Q, A, cells, slots⟩ := X
  obtain ⟨⟨hl0, hx, hb, hlk, hml, hown⟩, hts, hK, hE, hI, hAi, hAn, hD1, hD2, hD3, hD4⟩ := hC
  intro H locs ls hP hS hl
  exact lv_icmp_lt hx hb hd ht (fun h => kt h H locs ls hP hS hl) (fun h => kf h H locs ls hP hS hl)
theorem qi_if_ge (hC : QC X l0 Y cc own nL D) {x : Int32} {off : Int} {tgt : Nat} (ht : (pc : Int) + off = (tgt : Int)) (hd : decode cc pc = .ok (.ifCond .ge off, 3)) (kt : (0 ≤ x) → QG X Y nL m tgt lv st) (kf : ¬ (0 ≤ x) → QG X Y nL m (pc + 3) lv st) : QG X Y nL m pc lv (.int x :: st) := by
  obtain ⟨p, l, e, R, s, mid, args, below, meth, c, Q, A, cells, slots⟩ := X
  obtain ⟨⟨hl0, hx, hb, hlk, hml, hown⟩, hts, hK, hE, hI, hAi, hAn, hD1, hD2, hD3, hD4⟩ := hC
  intro H locs ls hP hS hl
  exact lv_if_ge hx hb hd ht (fun h => kt h H locs ls hP hS hl) (fun h => kf h H locs ls hP hS hl)
theorem qi_icmp_ge (hC : QC X l0 Y cc own nL D) {x y : Int32} {off : Int} {tgt : Nat} (ht : (pc : Int) + off = (tgt : Int)) (hd : decode cc pc = .ok (.if_icmp .ge off, 3)) (kt : (y ≤ x) → QG X Y nL m tgt lv st) (kf : ¬ (y ≤ x) → QG X Y nL m (pc + 3) lv st) : QG X Y nL m pc lv (.int y :: .int x :: st) := by
  obtain ⟨p, l, e, R, s, mid, args, below, meth, c, Q, A, cells, slots⟩ := X
  obtain ⟨⟨hl0, hx, hb, hlk, hml, hown⟩, hts, hK, hE, hI, hAi, hAn, hD1, hD2, hD3, hD4⟩ := hC
  intro H locs ls hP hS hl
  exact lv_icmp_ge hx hb hd ht (fun h => kt h H locs ls hP hS hl) (fun h => kf h H locs ls hP hS hl)
theorem qi_if_gt (hC : QC X l0 Y cc own nL D) {x : Int32} {off : Int} {tgt : Nat} (ht : (pc : Int) + off = (tgt : Int)) (hd : decode cc pc = .ok (.ifCond .gt off, 3)) (kt : (0 < x) → QG X Y nL m tgt lv st) (kf : ¬ (0 < x) → QG X Y nL m (pc + 3) lv st) : QG X Y nL m pc lv (.int x :: st) := by
  obtain ⟨p, l, e, R, s, mid, args, below, meth, c, Q, A, cells, slots⟩ := X
  obtain ⟨⟨hl0, hx, hb, hlk, hml, hown⟩, hts, hK, hE, hI, hAi, hAn, hD1, hD2, hD3, hD4⟩ := hC
  intro H locs ls hP hS hl
  exact lv_if_gt hx hb hd ht (fun h => kt h H locs ls hP hS hl) (fun h => kf h H locs ls hP hS hl)
theorem qi_icmp_gt (hC : QC X l0 Y cc own nL D) {x y : Int32} {off : Int} {tgt : Nat} (ht : (pc : Int) + off = (tgt : Int)) (hd : decode cc pc = .ok (.if_icmp .gt off, 3)) (kt : (y < x) → QG X Y nL m tgt lv st) (kf : ¬ (y < x) → QG X Y nL m (pc + 3) lv st) : QG X Y nL m pc lv (.int y :: .int x :: st) := by
  obtain ⟨p, l, e, R, s, mid, args, below, meth, c, Q, A, cells, slots⟩ := X
  obtain ⟨⟨hl0, hx, hb, hlk, hml, hown⟩, hts, hK, hE, hI, hAi, hAn, hD1, hD2, hD3, hD4⟩ := hC
  intro H locs ls hP hS hl
  exact lv_icmp_gt hx hb hd ht (fun h => kt h H locs ls hP hS hl) (fun h => kf h H locs ls hP hS hl)
theorem qi_if_le (hC : QC X l0 Y cc own nL D) {x : Int32} {off : Int} {tgt : Nat} (ht : (pc : Int) + off = (tgt : Int)) (hd : decode cc pc = .ok (.ifCond .le off, 3)) (kt : (x ≤ 0) → QG X Y nL m tgt lv st) (kf : ¬ (x ≤ 0) → QG X Y nL m (pc + 3) lv st) : QG X Y nL m pc lv (.int x :: st) := by
  obtain ⟨p, l, e, R, s, mid, args, below, meth, c, Q, A, cells, slots⟩ := X
  obtain ⟨⟨hl0, hx, hb, hlk, hml, hown⟩, hts, hK, hE, hI, hAi, hAn, hD1, hD2, hD3, hD4⟩ := hC
  intro H locs ls hP hS hl
  exact lv_if_le hx hb hd ht (fun h => kt h H locs ls hP hS hl) (fun h => kf h H locs ls hP hS hl)
theorem qi_icmp_le (hC : QC X l0 Y cc own nL D) {x y : Int32} {off : Int} {tgt : Nat} (ht : (pc : Int) + off = (tgt : Int)) (hd : decode cc pc = .ok (.if_icmp .le off, 3)) (kt : (x ≤ y) → QG X Y nL m tgt lv st) (kf : ¬ (x ≤ y) → QG X Y nL m (pc + 3) lv st) : QG X Y nL m pc lv (.int y :: .int x :: st) := by
  obtain ⟨p, l, e, R, s, mid, args, below, meth, c, Q, A, cells, slots⟩ := X
  obtain ⟨⟨hl0, hx, hb, hlk, hml, hown⟩, hts, hK, hE, hI, hAi, hAn, hD1, hD2, hD3, hD4⟩ := hC
  intro H locs ls hP hS hl
  exact lv_icmp_le hx hb hd ht (fun h => kt h H locs ls hP hS hl) (fun h => kf h H locs ls hP hS hl)
theorem qi_goto (hC : QC X l0 Y cc own nL D) {off : Int} {tgt : Nat} (ht : (pc : Int) + off = (tgt : Int)) (hd : decode cc pc = .ok (.goto off, 3)) (k : QG X Y nL m tgt lv st) : QG X Y nL m pc lv st := by
  obtain ⟨p, l, e, R, s, mid, args, below, meth, c, Q, A, cells, slots⟩ := X
  obtain ⟨⟨hl0, hx, hb, hlk, hml, hown⟩, hts, hK, hE, hI, hAi, hAn, hD1, hD2, hD3, hD4⟩ := hC
  intro H locs ls hP hS hl
  exact lv_goto hx hb hd ht (k H locs ls hP hS hl)
theorem qi_tabOut (hC : QC X l0 Y cc own nL D) {dflt lo hi : Int} {offs : Array Int} {len : Nat} {x : Int32} {tgt : Nat} (hd : decode cc pc = .ok (.tableswitch dflt lo hi offs, len)) (h : x.toInt < lo ∨ hi < x.toInt) (ht : (pc : Int) + dflt = (tgt : Int)) (k : QG X Y nL m tgt lv st) : QG X Y nL m pc lv (.int x :: st) := by
  obtain ⟨p, l, e, R, s, mid, args, below, meth, c, Q, A, cells, slots⟩ := X
  obtain ⟨⟨hl0, hx, hb, hlk, hml, hown⟩, hts, hK, hE, hI, hAi, hAn, hD1, hD2, hD3, hD4⟩ := hC
  intro H locs ls hP hS hl
  exact lv_tableOut hx hb hd h ht (k H locs ls hP hS hl)
theorem qi_tabIn (hC : QC X l0 Y cc own nL D) {dflt lo hi : Int} {offs : Array Int} {len : Nat} {x : Int32} {tgt : Nat} {off : Int} (hd : decode cc pc = .ok (.tableswitch dflt lo hi offs, len)) (h1 : ¬ x.toInt < lo) (h2 : ¬ hi < x.toInt) (ho : offs[(x.toInt - lo).toNat]? = some off) (ht : (pc : Int) + off = (tgt : Int)) (k : QG X Y nL m tgt lv st) : QG X Y nL m pc lv (.int x :: st) := by
  obtain ⟨p, l, e, R, s, mid, args, below, meth, c, Q, A, cells, slots⟩ := X
  obtain ⟨⟨hl0, hx, hb, hlk, hml, hown⟩, hts, hK, hE, hI, hAi, hAn, hD1, hD2, hD3, hD4⟩ := hC
  intro H locs ls hP hS hl
  exact lv_tableIn hx hb hd h1 h2 ho ht (k H locs ls hP hS hl)
theorem qi_lookup (hC : QC X l0 Y cc own nL D) {dflt : Int} {ps : Array (Int × Int)} {len : Nat} {x : Int32} {off : Int} {tgt : Nat} (hd : decode cc pc = .ok (.lookupswitch dflt ps, len)) (hp : (ps.toList.zip (ps.toList.drop 1)).all (fun (a, next) => a.1 < next.1) = true) (ho : Op.lookupswitch.offset ps.toList dflt x.toInt = off) (ht : (pc : Int) + off = (tgt : Int)) (k : QG X Y nL m tgt lv st) : QG X Y nL m pc lv (.int x :: st) := by
  obtain ⟨p, l, e, R, s, mid, args, below, meth, c, Q, A, cells, slots⟩ := X
  obtain ⟨⟨hl0, hx, hb, hlk, hml, hown⟩, hts, hK, hE, hI, hAi, hAn, hD1, hD2, hD3, hD4⟩ := hC
  intro H locs ls hP hS hl
  exact lv_lookup hx hb hd hp ho ht (k H locs ls hP hS hl)
theorem qi_geti (hC : QC X l0 Y cc own nL D) {index ci kk i : Nat} {fl : List (Option Nat)} (hf : qaFd own index ci kk) (hS0 : qaSh[i]? = some (.inr (ci, fl))) (hfl : fl[kk]? = some none) (hd : decode cc pc = .ok (.getfield index, 3)) (k : QG X Y nL m (pc + 3) lv (.int (m i kk) :: st)) : QG X Y nL m pc lv (.ref (Y.2.2.1 i) :: st) := by
  obtain ⟨p, l, e, R, s, mid, args, below, meth, c, Q, A, cells, slots⟩ := X
  obtain ⟨⟨hl0, hx, hb, hlk, hml, hown⟩, hts, hK, hE, hI, hAi, hAn, hD1, hD2, hD3, hD4⟩ := hC
  intro H locs ls hP hS hl
  obtain ⟨C, ref, T, N, hc, hin, hkN, hlink, href⟩ := hf
  subst href
  exact va_get hx hb hts hin hown hK hP i (qa_w_ao hS0) hc kk hkN (hts _ hlink) (fun _ h => h) (qa_f_i hfl) hd (k H locs ls hP hS hl)
theorem qi_getr (hC : QC X l0 Y cc own nL D) {index ci kk i t : Nat} {fl : List (Option Nat)} (hf : qaFd own index ci kk) (hS0 : qaSh[i]? = some (.inr (ci, fl))) (hfl : fl[kk]? = some (some t)) (hd : decode cc pc = .ok (.getfield index, 3)) (k : QG X Y nL m (pc + 3) lv (.ref (Y.2.2.1 t) :: st)) : QG X Y nL m pc lv (.ref (Y.2.2.1 i) :: st) := by
  obtain ⟨p, l, e, R, s, mid, args, below, meth, c, Q, A, cells, slots⟩ := X
  obtain ⟨⟨hl0, hx, hb, hlk, hml, hown⟩, hts, hK, hE, hI, hAi, hAn, hD1, hD2, hD3, hD4⟩ := hC
  intro H locs ls hP hS hl
  obtain ⟨C, ref, T, N, hc, hin, hkN, hlink, href⟩ := hf
  subst href
  exact va_get hx hb hts hin hown hK hP i (qa_w_ao hS0) hc kk hkN (hts _ hlink) (fun _ h => h) (qa_f_r hfl) hd (k H locs ls hP hS hl)
theorem qi_puti (hC : QC X l0 Y cc own nL D) {index ci kk i : Nat} {fl : List (Option Nat)} {v : Int32} {ty : FieldType} {m2 : qaM} (hm : m2 = qa_st m i kk v) (hf : qaFp own index ci kk ty) (hS0 : qaSh[i]? = some (.inr (ci, fl))) (hfl : fl[kk]? = some none) (hnw : narrow ty (.int v) = .int v) (hft : fits ty (.int v) = true) (hd : decode cc pc = .ok (.putfield index, 3)) (k : QG X Y nL m2 (pc + 3) lv st) : QG X Y nL m pc lv (.int v :: .ref (Y.2.2.1 i) :: st) := by
  obtain ⟨p, l, e, R, s, mid, args, below, meth, c, Q, A, cells, slots⟩ := X
  obtain ⟨⟨hl0, hx, hb, hlk, hml, hown⟩, hts, hK, hE, hI, hAi, hAn, hD1, hD2, hD3, hD4⟩ := hC
  intro H locs ls hP hS hl
  subst hm
  obtain ⟨C, ref, T, N, ty0, ⟨hc, hin, hkN, hlink, href⟩, hty, hnm, hfin, hdd⟩ := hf
  subst href
  have e1 : (qa_w Y qaSh m).set i (Y.2.2.1 i, .inr (ci, (qa_f Y.2.2.1 (m i) fl).set kk (.int v))) = qa_w Y qaSh (qa_st m i kk v) := by
    rw [qa_f_set hfl]
    exact qa_w_so (f := upd (m i) kk v) hS0
  refine va_put hx hb hts hin ty0 hty hnm hown hK hP (qa_D hI hAi) hS i (qa_w_ao hS0) hc kk hkN (hts _ hlink) (fun _ h => h) hfin hdd hnw hft ?_ hd (fun H1 locs1 hP1 _ hS1 => k H1 locs1 ls (by rw [← e1]; exact hP1) hS1 hl)
  rw [show (qa_f Y.2.2.1 (m i) fl).length = fl.length by simp [qa_f]]
  exact (List.getElem?_eq_some_iff.mp hfl).1
theorem qi_iald (hC : QC X l0 Y cc own nL D) {i n kx : Nat} {x : Int32} (hk : x.toNatClampNeg = kx) (hS0 : qaSh[i]? = some (.inl n)) (hin : vp_in x n) (hd : decode cc pc = .ok (.iaload, 1)) (k : QG X Y nL m (pc + 1) lv (.int (m i kx) :: st)) : QG X Y nL m pc lv (.int x :: .ref (Y.2.2.1 i) :: st) := by
  obtain ⟨p, l, e, R, s, mid, args, below, meth, c, Q, A, cells, slots⟩ := X
  obtain ⟨⟨hl0, hx, hb, hlk, hml, hown⟩, hts, hK, hE, hI, hAi, hAn, hD1, hD2, hD3, hD4⟩ := hC
  intro H locs ls hP hS hl
  subst hk
  exact va_iald hx hb hK hP i 0 (qa_w_aa hS0) rfl hin hd (k H locs ls hP hS hl)
theorem qi_iast (hC : QC X l0 Y cc own nL D) {i n kx : Nat} {x v : Int32} {m2 : qaM} (hk : x.toNatClampNeg = kx) (hm : m2 = qa_st m i kx v) (hS0 : qaSh[i]? = some (.inl n)) (hin : vp_in x n) (hd : decode cc pc = .ok (.iastore, 1)) (k : QG X Y nL m2 (pc + 1) lv st) : QG X Y nL m pc lv (.int v :: .int x :: .ref (Y.2.2.1 i) :: st) := by
  obtain ⟨p, l, e, R, s, mid, args, below, meth, c, Q, A, cells, slots⟩ := X
  obtain ⟨⟨hl0, hx, hb, hlk, hml, hown⟩, hts, hK, hE, hI, hAi, hAn, hD1, hD2, hD3, hD4⟩ := hC
  intro H locs ls hP hS hl
  subst hk
  subst hm
  have e1 : (qa_w Y qaSh m).set i (Y.2.2.1 i, .inl (Y.2.1, n, .inl (upd (m i) x.toNatClampNeg v))) = qa_w Y qaSh (qa_st m i x.toNatClampNeg v) := qa_w_sa (f := upd (m i) x.toNatClampNeg v) hS0
  exact va_iast hx hb hK hP (qa_D hI hAi) hS i 0 (qa_w_aa hS0) rfl hin hd (fun H1 locs1 hP1 _ hS1 => k H1 locs1 ls (by rw [← e1]; exact hP1) hS1 hl)
theorem qi_copy (hC : QC X l0 Y cc own nL D) {i j n0 n1 index : Nat} {sp dp n : Int32} {m2 : qaM} (hm : m2 = qa_pt m j (va_cpy (m i) (m j) sp.toNatClampNeg dp.toNatClampNeg n.toNatClampNeg)) (hlink : Cond.methodLink own index arraycopyName ∈ qaWL) (hnat : Cond.native arraycopyName ∈ qaWL) (hstat : Cond.static arraycopyName ∈ qaWL) (hini : Cond.initialized "java/lang/System" ∈ qaWL) (hS0 : qaSh[i]? = some (.inl n0)) (hS1 : qaSh[j]? = some (.inl n1)) (h1 : ¬ sp < 0) (h2 : ¬ dp < 0) (h3 : ¬ n < 0) (h4 : sp.toNatClampNeg + n.toNatClampNeg ≤ n0) (h5 : dp.toNatClampNeg + n.toNatClampNeg ≤ n1) (hD0 : 1 ≤ D) (hrest : (st.map fun v => v.category).sum ≤ 8) (hd : decode cc pc = .ok (.invokestatic index, 3)) (k : QG X Y nL m2 (pc + 3) lv st) : QG X Y nL m pc lv (.int n :: .int dp :: .ref (Y.2.2.1 j) :: .int sp :: .ref (Y.2.2.1 i) :: st) := by
  obtain ⟨p, l, e, R, s, mid, args, below, meth, c, Q, A, cells, slots⟩ := X
  obtain ⟨⟨hl0, hx, hb, hlk, hml, hown⟩, hts, hK, hE, hI, hAi, hAn, hD1, hD2, hD3, hD4⟩ := hC
  intro H locs ls hP hS hl
  subst hm
  have e1 : (qa_w Y qaSh m).set j (Y.2.2.1 j, .inl (Y.2.1, n1, .inl (va_cpy (m i) (m j) sp.toNatClampNeg dp.toNatClampNeg n.toNatClampNeg))) = qa_w Y qaSh (qa_pt m j (va_cpy (m i) (m j) sp.toNatClampNeg dp.toNatClampNeg n.toNatClampNeg)) := qa_w_sa hS1
  have hnf : nativeFrameWords "java/lang/System" "arraycopy" 5 = 7 := by decide +kernel
  exact va_copyi hx hb (hml.trans hl.1.symm) hown (hts _ hlink) (hts _ hnat) (hts _ hstat) (hts _ hini) hK hP (qa_D hI hAi) hS i j 0 0 (qa_w_aa hS0) (qa_w_aa hS1) rfl rfl rfl h1 h2 h3 h4 h5 (fun _ _ => rfl) (by omega) (by rw [hnf]; omega) hd (fun H1 locs1 hP1 _ hS1 => k H1 locs1 ls (by rw [← e1]; exact hP1) hS1 hl)
theorem qi_mmax (hC : QC X l0 Y cc own nL D) {index : Nat} {x y : Int32} (hlink : Cond.methodLink own index Lib.Math.max.name ∈ qaWL) (hstat : Cond.static Lib.Math.max.name ∈ qaWL) (hini : Cond.initialized "java/lang/Math" ∈ qaWL) (hcode : Cond.code Lib.Math.max.name Lib.Math.max.code 2 (some .int) ∈ qaWL) (hD0 : 1 ≤ D) (hrest : (st.map fun v => v.category).sum ≤ 8) (hd : decode cc pc = .ok (.invokestatic index, 3)) (k : QG X Y nL m (pc + 3) lv (.int (qa_max x y) :: st)) : QG X Y nL m pc lv (.int y :: .int x :: st) := by
  obtain ⟨p, l, e, R, s, mid, args, below, meth, c, Q, A, cells, slots⟩ := X
  obtain ⟨⟨hl0, hx, hb, hlk, hml, hown⟩, hts, hK, hE, hI, hAi, hAn, hD1, hD2, hD3, hD4⟩ := hC
  intro H locs ls hP hS hl
  exact va_mmax hx hb (hml.trans hl.1.symm) hown (hts _ hlink) (hts _ hstat) (hts _ hini) (hts _ hcode) (by omega) (by omega) hD3 hD4 hd (k H locs ls hP hS hl)
theorem qi_mmin (hC : QC X l0 Y cc own nL D) {index : Nat} {x y : Int32} (hlink : Cond.methodLink own index Lib.Math.min.name ∈ qaWL) (hstat : Cond.static Lib.Math.min.name ∈ qaWL) (hini : Cond.initialized "java/lang/Math" ∈ qaWL) (hcode : Cond.code Lib.Math.min.name Lib.Math.min.code 2 (some .int) ∈ qaWL) (hD0 : 1 ≤ D) (hrest : (st.map fun v => v.category).sum ≤ 8) (hd : decode cc pc = .ok (.invokestatic index, 3)) (k : QG X Y nL m (pc + 3) lv (.int (qa_min x y) :: st)) : QG X Y nL m pc lv (.int y :: .int x :: st) := by
  obtain ⟨p, l, e, R, s, mid, args, below, meth, c, Q, A, cells, slots⟩ := X
  obtain ⟨⟨hl0, hx, hb, hlk, hml, hown⟩, hts, hK, hE, hI, hAi, hAn, hD1, hD2, hD3, hD4⟩ := hC
  intro H locs ls hP hS hl
  exact va_mmin hx hb (hml.trans hl.1.symm) hown (hts _ hlink) (hts _ hstat) (hts _ hini) (hts _ hcode) (by omega) (by omega) hD3 hD4 hd (k H locs ls hP hS hl)
theorem qi_greatest (hC : QC X l0 Y cc own nL D) {index : Nat} {ref : String} (hlink : Cond.fieldLink own index ref "GREATEST" "[I" ∈ qaWL) (href : ref = "AlwaysTheTopTwo") (hd : decode cc pc = .ok (.getstatic index, 3)) (k : QG X Y nL m (pc + 3) lv (.ref (Y.2.2.2 0) :: st)) : QG X Y nL m pc lv st := by
  obtain ⟨p, l, e, R, s, mid, args, below, meth, c, Q, A, cells, slots⟩ := X
  obtain ⟨⟨hl0, hx, hb, hlk, hml, hown⟩, hts, hK, hE, hI, hAi, hAn, hD1, hD2, hD3, hD4⟩ := hC
  intro H locs ls hP hS hl
  subst href
  exact va_gets hx hb hE.1 hS hown (hts _ hlink) (fun _ h => h) hd (k H locs ls hP hS hl)
theorem qi_grld (hC : QC X l0 Y cc own nL D) {kx : Nat} {x : Int32} (hk : x.toNatClampNeg = kx) (hin : vp_in x 4) (hd : decode cc pc = .ok (.iaload, 1)) (k : QG X Y nL m (pc + 1) lv (.int (qa_gr kx) :: st)) : QG X Y nL m pc lv (.int x :: .ref (Y.2.2.2 0) :: st) := by
  obtain ⟨p, l, e, R, s, mid, args, below, meth, c, Q, A, cells, slots⟩ := X
  obtain ⟨⟨hl0, hx, hb, hlk, hml, hown⟩, hts, hK, hE, hI, hAi, hAn, hD1, hD2, hD3, hD4⟩ := hC
  intro H locs ls hP hS hl
  subst hk
  exact va_ti hx hb hE.2.1 hS hin rfl hd (k H locs ls hP hS hl)
theorem qi_sub (hC : QC X l0 Y cc own nL D) {lv' : List (Nat × Value)} (is : List Nat) (hv : lv_pick lv is = lv') (k : QG X Y nL m pc lv' st) : QG X Y nL m pc lv st := by
  obtain ⟨p, l, e, R, s, mid, args, below, meth, c, Q, A, cells, slots⟩ := X
  obtain ⟨⟨hl0, hx, hb, hlk, hml, hown⟩, hts, hK, hE, hI, hAi, hAn, hD1, hD2, hD3, hD4⟩ := hC
  intro H locs ls hP hS hl
  exact k H locs ls hP hS (lv_sub hl is hv)
theorem qi_nmi (hC : QC X l0 Y cc own nL D) {x y : Int32} (h : y = x) (k : QG X Y nL m pc lv (.int y :: st)) : QG X Y nL m pc lv (.int x :: st) := by
  obtain ⟨p, l, e, R, s, mid, args, below, meth, c, Q, A, cells, slots⟩ := X
  obtain ⟨⟨hl0, hx, hb, hlk, hml, hown⟩, hts, hK, hE, hI, hAi, hAn, hD1, hD2, hD3, hD4⟩ := hC
  intro H locs ls hP hS hl
  subst h
  exact k H locs ls hP hS hl
theorem qi_nml (hC : QC X l0 Y cc own nL D) {x y : Int64} (h : y = x) (k : QG X Y nL m pc lv (.long y :: st)) : QG X Y nL m pc lv (.long x :: st) := by
  obtain ⟨p, l, e, R, s, mid, args, below, meth, c, Q, A, cells, slots⟩ := X
  obtain ⟨⟨hl0, hx, hb, hlk, hml, hown⟩, hts, hK, hE, hI, hAi, hAn, hD1, hD2, hD3, hD4⟩ := hC
  intro H locs ls hP hS hl
  subst h
  exact k H locs ls hP hS hl
theorem qi_ireti (hC : QC X l0 Y cc own nL D) {m2 : qaM} {r v : Int32} (hQ : QRi X Y (some .int) m2 r) (he : (v, m) = (r, m2)) (hd : decode cc pc = .ok (.ireturn, 1)) : QG X Y nL m pc lv [.int v] := by
  obtain ⟨p, l, e, R, s, mid, args, below, meth, c, Q, A, cells, slots⟩ := X
  obtain ⟨⟨hl0, hx, hb, hlk, hml, hown⟩, hts, hK, hE, hI, hAi, hAn, hD1, hD2, hD3, hD4⟩ := hC
  intro H locs ls hP hS hl
  obtain ⟨hr, rfl⟩ := hQ
  cases he
  exact W.iret hx hb hr (fun t ht _ => ⟨⟨_, (), rfl, rfl, show va_P _ _ _ t.heap by rw [ht]; exact hP⟩, hS.F ht⟩) hS.2.2 hd hlk
theorem qi_iretz (hC : QC X l0 Y cc own nL D) {m2 : qaM} {r v : Int32} {ty : FieldType} (hQ : QRi X Y (some ty) m2 r) (he : (v, m) = (r, m2)) (hnw : narrow ty (.int v) = .int v) (hd : decode cc pc = .ok (.ireturn, 1)) : QG X Y nL m pc lv [.int v] := by
  obtain ⟨p, l, e, R, s, mid, args, below, meth, c, Q, A, cells, slots⟩ := X
  obtain ⟨⟨hl0, hx, hb, hlk, hml, hown⟩, hts, hK, hE, hI, hAi, hAn, hD1, hD2, hD3, hD4⟩ := hC
  intro H locs ls hP hS hl
  obtain ⟨hr, rfl⟩ := hQ
  cases he
  exact W.zret hx hb hr hnw (fun t ht _ => ⟨⟨_, (), rfl, rfl, show va_P _ _ _ t.heap by rw [ht]; exact hP⟩, hS.F ht⟩) hS.2.2 hd hlk
theorem qi_lret (hC : QC X l0 Y cc own nL D) {m2 : qaM} {r v : Int64} (hQ : QRl X Y (some .long) m2 r) (he : (v, m) = (r, m2)) (hd : decode cc pc = .ok (.lreturn, 1)) : QG X Y nL m pc lv [.long v] := by
  obtain ⟨p, l, e, R, s, mid, args, below, meth, c, Q, A, cells, slots⟩ := X
  obtain ⟨⟨hl0, hx, hb, hlk, hml, hown⟩, hts, hK, hE, hI, hAi, hAn, hD1, hD2, hD3, hD4⟩ := hC
  intro H locs ls hP hS hl
  obtain ⟨hr, rfl⟩ := hQ
  cases he
  exact W.lret hx hb hr (fun t ht _ => ⟨⟨_, (), rfl, rfl, show va_P _ _ _ t.heap by rw [ht]; exact hP⟩, hS.F ht⟩) hS.2.2 hd hlk
theorem qi_vret (hC : QC X l0 Y cc own nL D) {m2 : qaM} (hQ : QRv X Y m2) (he : m = m2) (hd : decode cc pc = .ok (.return_, 1)) : QG X Y nL m pc lv [] := by
  obtain ⟨p, l, e, R, s, mid, args, below, meth, c, Q, A, cells, slots⟩ := X
  obtain ⟨⟨hl0, hx, hb, hlk, hml, hown⟩, hts, hK, hE, hI, hAi, hAn, hD1, hD2, hD3, hD4⟩ := hC
  intro H locs ls hP hS hl
  obtain ⟨hr, rfl⟩ := hQ
  cases he
  exact W.vret hx hb hr (fun t ht _ => ⟨⟨(), rfl, trivial, show va_P _ _ _ t.heap by rw [ht]; exact hP⟩, hS.F ht⟩) hS.2.2 hd hlk
theorem qi_aret (hC : QC X l0 Y cc own nL D) {m2 : qaM} {r v : Nat} {C : String} (hQ : QRr X Y (some (.object C)) m2 r) (he : (v, m) = (r, m2)) (hd : decode cc pc = .ok (.areturn, 1)) : QG X Y nL m pc lv [.ref v] := by
  obtain ⟨p, l, e, R, s, mid, args, below, meth, c, Q, A, cells, slots⟩ := X
  obtain ⟨⟨hl0, hx, hb, hlk, hml, hown⟩, hts, hK, hE, hI, hAi, hAn, hD1, hD2, hD3, hD4⟩ := hC
  intro H locs ls hP hS hl
  obtain ⟨hr, rfl⟩ := hQ
  cases he
  exact W.aret hx hb hr (Or.inl ⟨_, rfl⟩) (Or.inr ⟨_, rfl⟩) (fun t ht _ => ⟨⟨(), _, rfl, trivial, rfl, show va_P _ _ _ t.heap by rw [ht]; exact hP⟩, hS.F ht⟩) hS.2.2 hd hlk
theorem qi_callNi (hC : QC X l0 Y cc own nL D) {index n nL2 d : Nat} {y : MethodName} {host : String} {b : ByteArray} {ret : Option FieldType} {r : Int32} {as stk : List Value} {m2 : qaM} (hM : qaMi l0 Y y b nL2 ret d as m m2 r) (hc : qaCN own index y host n) (hcode : Cond.code y b nL2 ret ∈ qaWL) (hn : as.length = n) (hst : as.reverse ++ st = stk) (hd1 : d + 1 ≤ D) (hd2 : nL2 ≤ 40) (hrest : (st.map fun v => v.category).sum ≤ 8) (hd : decode cc pc = .ok (.invokestatic index, 3)) (k : QG X Y nL m2 (pc + 3) lv (.int r :: st)) : QG X Y nL m pc lv stk := by
  obtain ⟨p, l, e, R, s, mid, args, below, meth, c, Q, A, cells, slots⟩ := X
  obtain ⟨⟨hl0, hx, hb, hlk, hml, hown⟩, hts, hK, hE, hI, hAi, hAn, hD1, hD2, hD3, hD4⟩ := hC
  intro H locs ls hP hS hl
  subst hl0
  subst hst
  obtain ⟨⟨e1, e2, e3, e4⟩, ⟨w2, w3⟩, hy⟩ := hc
  subst e1 e2 e4
  have w1 : va_Nw (.methodLinkNest "AlwaysTheTopTwo$Sheets" 21 y "AlwaysTheTopTwo") s := by rw [e3]; exact hE.2.2.2.2.2.2
  have hAA : ∀ q : Nat, qa_A Y H.size q → A q := by
    rintro q (⟨i, hi, rfl⟩ | hq)
    · exact hAi i hi
    · exact hAn q (Nat.le_trans hS.1 hq)
  have hEU : ∀ U : State, s.WarmedH U.vm → qa_E Y (qa_A Y H.size) U H := fun U hW => ((hE.kept hS.2.1).narrow hAA).warm hW
  refine va_calli (va_runSN (As := as) (rest := st) ⟨hx, hb, hml, hown, hts⟩ (hM H.size) ⟨va_cnB n hts (qa_gi hcode) rfl rfl rfl w1 (hts _ w3) hy ⟨by show d + 1 ≤ _; omega, by show 8 + (nL2 + 11) + 60 * d ≤ _; omega⟩, hts _ w2, trivial⟩ ⟨fun a U g mk q => ⟨q.1, q.2.blind⟩, fun U hU hW => ⟨rfl, by rw [hU], by rw [hU]; exact hP, va_K.moved hW.alike hK, by rw [hU]; exact hEU U hW, hI⟩⟩ rfl hn hl.1 rfl (lv_room hrest) hd ⟨by omega, by omega⟩) hS (fun q _ h => hAA q h) hAA (fun r1 u t H1 locs1 ht hvm hw hB hz1 hk1 hS1 => ?_)
  subst hw
  exact k H1 locs1 ls (by rw [← ht]; exact hB) hS1 hl
theorem qi_callVi (hC : QC X l0 Y cc own nL D) {index n nL2 d ci i : Nat} {fl : List (Option Nat)} {y : MethodName} {b : ByteArray} {ret : Option FieldType} {r : Int32} {as stk : List Value} {m2 : qaM} (hM : qaMi l0 Y y b nL2 ret d (.ref (Y.2.2.1 i) :: as) m m2 r) (hc : qaCV own index y n ci) (hS0 : qaSh[i]? = some (.inr (ci, fl))) (hcode : Cond.code y b nL2 (ret) ∈ qaWL) (hn : as.length = n) (hst : as.reverse ++ .ref (Y.2.2.1 i) :: st = stk) (hd1 : d + 1 ≤ D) (hd2 : nL2 ≤ 40) (hrest : (st.map fun v => v.category).sum ≤ 8) (hd : decode cc pc = .ok (.invokevirtual index, 3)) (k : QG X Y nL m2 (pc + 3) lv (.int r :: st)) : QG X Y nL m pc lv stk := by
  obtain ⟨p, l, e, R, s, mid, args, below, meth, c, Q, A, cells, slots⟩ := X
  obtain ⟨⟨hl0, hx, hb, hlk, hml, hown⟩, hts, hK, hE, hI, hAi, hAn, hD1, hD2, hD3, hD4⟩ := hC
  intro H locs ls hP hS hl
  subst hl0
  subst hst
  obtain ⟨⟨w1, w2, w3, w4⟩, hy, T, N, hct⟩ := hc
  have hG : GoodIn qaWL (wsV own index y.cls y (.code y b nL2 (ret) :: qaWL)) := by
    intro w hw
    unfold wsV at hw
    rcases List.mem_append.mp hw with hw | hw
    · simp only [List.mem_cons, List.not_mem_nil, or_false] at hw
      rcases hw with rfl | rfl | rfl | rfl
      · exact ⟨w1, qa_good w1⟩
      · exact ⟨w2, qa_good w2⟩
      · exact ⟨w3, qa_good w3⟩
      · exact ⟨w4, qa_good w4⟩
    · exact qa_gi hcode w hw
  have hAA : ∀ q : Nat, qa_A Y H.size q → A q := by
    rintro q (⟨i, hi, rfl⟩ | hq)
    · exact hAi i hi
    · exact hAn q (Nat.le_trans hS.1 hq)
  have hEU : ∀ U : State, s.WarmedH U.vm → qa_E Y (qa_A Y H.size) U H := fun U hW => ((hE.kept hS.2.1).narrow hAA).warm hW
  refine va_calli (va_runV (As := as) (rest := st) ⟨hx, hb, hml, hown, hts⟩ (hM H.size) (cwV n hts hG rfl rfl rfl ⟨rfl, hy⟩ ⟨by show d + 1 ≤ _; omega, by show 8 + (nL2 + 11) + 60 * d ≤ _; omega⟩) ⟨fun a U g mk q => ⟨q.1, q.2.blind⟩, va_recv hK hP hct (qa_w_ao hS0), fun U hU hW => ⟨rfl, by rw [hU], by rw [hU]; exact hP, va_K.moved hW.alike hK, by rw [hU]; exact hEU U hW, hI⟩⟩ rfl hn hl.1 rfl (lv_room hrest) hd ⟨by omega, by omega⟩) hS (fun q _ h => hAA q h) hAA (fun r1 u t H1 locs1 ht hvm hw hB hz1 hk1 hS1 => ?_)
  subst hw
  exact k H1 locs1 ls (by rw [← ht]; exact hB) hS1 hl
theorem qi_callVl (hC : QC X l0 Y cc own nL D) {index n nL2 d ci i : Nat} {fl : List (Option Nat)} {y : MethodName} {b : ByteArray} {ret : Option FieldType} {r : Int64} {as stk : List Value} {m2 : qaM} (hM : qaMl l0 Y y b nL2 ret d (.ref (Y.2.2.1 i) :: as) m m2 r) (hc : qaCV own index y n ci) (hS0 : qaSh[i]? = some (.inr (ci, fl))) (hcode : Cond.code y b nL2 (ret) ∈ qaWL) (hn : as.length = n) (hst : as.reverse ++ .ref (Y.2.2.1 i) :: st = stk) (hd1 : d + 1 ≤ D) (hd2 : nL2 ≤ 40) (hrest : (st.map fun v => v.category).sum ≤ 8) (hd : decode cc pc = .ok (.invokevirtual index, 3)) (k : QG X Y nL m2 (pc + 3) lv (.long r :: st)) : QG X Y nL m pc lv stk := by
  obtain ⟨p, l, e, R, s, mid, args, below, meth, c, Q, A, cells, slots⟩ := X
  obtain ⟨⟨hl0, hx, hb, hlk, hml, hown⟩, hts, hK, hE, hI, hAi, hAn, hD1, hD2, hD3, hD4⟩ := hC
  intro H locs ls hP hS hl
  subst hl0
  subst hst
  obtain ⟨⟨w1, w2, w3, w4⟩, hy, T, N, hct⟩ := hc
  have hG : GoodIn qaWL (wsV own index y.cls y (.code y b nL2 (ret) :: qaWL)) := by
    intro w hw
    unfold wsV at hw
    rcases List.mem_append.mp hw with hw | hw
    · simp only [List.mem_cons, List.not_mem_nil, or_false] at hw
      rcases hw with rfl | rfl | rfl | rfl
      · exact ⟨w1, qa_good w1⟩
      · exact ⟨w2, qa_good w2⟩
      · exact ⟨w3, qa_good w3⟩
      · exact ⟨w4, qa_good w4⟩
    · exact qa_gi hcode w hw
  have hAA : ∀ q : Nat, qa_A Y H.size q → A q := by
    rintro q (⟨i, hi, rfl⟩ | hq)
    · exact hAi i hi
    · exact hAn q (Nat.le_trans hS.1 hq)
  have hEU : ∀ U : State, s.WarmedH U.vm → qa_E Y (qa_A Y H.size) U H := fun U hW => ((hE.kept hS.2.1).narrow hAA).warm hW
  refine va_calll (va_runV (As := as) (rest := st) ⟨hx, hb, hml, hown, hts⟩ (hM H.size) (cwV n hts hG rfl rfl rfl ⟨rfl, hy⟩ ⟨by show d + 1 ≤ _; omega, by show 8 + (nL2 + 11) + 60 * d ≤ _; omega⟩) ⟨fun a U g mk q => ⟨q.1, q.2.blind⟩, va_recv hK hP hct (qa_w_ao hS0), fun U hU hW => ⟨rfl, by rw [hU], by rw [hU]; exact hP, va_K.moved hW.alike hK, by rw [hU]; exact hEU U hW, hI⟩⟩ rfl hn hl.1 rfl (lv_room hrest) hd ⟨by omega, by omega⟩) hS (fun q _ h => hAA q h) hAA (fun r1 u t H1 locs1 ht hvm hw hB hz1 hk1 hS1 => ?_)
  subst hw
  exact k H1 locs1 ls (by rw [← ht]; exact hB) hS1 hl
theorem qi_callVv (hC : QC X l0 Y cc own nL D) {index n nL2 d ci i : Nat} {fl : List (Option Nat)} {y : MethodName} {b : ByteArray}  {as stk : List Value} {m2 : qaM} (hM : qaMv l0 Y y b nL2  d (.ref (Y.2.2.1 i) :: as) m m2) (hc : qaCV own index y n ci) (hS0 : qaSh[i]? = some (.inr (ci, fl))) (hcode : Cond.code y b nL2 (none) ∈ qaWL) (hn : as.length = n) (hst : as.reverse ++ .ref (Y.2.2.1 i) :: st = stk) (hd1 : d + 1 ≤ D) (hd2 : nL2 ≤ 40) (hrest : (st.map fun v => v.category).sum ≤ 8) (hd : decode cc pc = .ok (.invokevirtual index, 3)) (k : QG X Y nL m2 (pc + 3) lv st) : QG X Y nL m pc lv stk := by
  obtain ⟨p, l, e, R, s, mid, args, below, meth, c, Q, A, cells, slots⟩ := X
  obtain ⟨⟨hl0, hx, hb, hlk, hml, hown⟩, hts, hK, hE, hI, hAi, hAn, hD1, hD2, hD3, hD4⟩ := hC
  intro H locs ls hP hS hl
  subst hl0
  subst hst
  obtain ⟨⟨w1, w2, w3, w4⟩, hy, T, N, hct⟩ := hc
  have hG : GoodIn qaWL (wsV own index y.cls y (.code y b nL2 (none) :: qaWL)) := by
    intro w hw
    unfold wsV at hw
    rcases List.mem_append.mp hw with hw | hw
    · simp only [List.mem_cons, List.not_mem_nil, or_false] at hw
      rcases hw with rfl | rfl | rfl | rfl
      · exact ⟨w1, qa_good w1⟩
      · exact ⟨w2, qa_good w2⟩
      · exact ⟨w3, qa_good w3⟩
      · exact ⟨w4, qa_good w4⟩
    · exact qa_gi hcode w hw
  have hAA : ∀ q : Nat, qa_A Y H.size q → A q := by
    rintro q (⟨i, hi, rfl⟩ | hq)
    · exact hAi i hi
    · exact hAn q (Nat.le_trans hS.1 hq)
  have hEU : ∀ U : State, s.WarmedH U.vm → qa_E Y (qa_A Y H.size) U H := fun U hW => ((hE.kept hS.2.1).narrow hAA).warm hW
  refine va_callv (va_runV (As := as) (rest := st) ⟨hx, hb, hml, hown, hts⟩ (hM H.size) (cwV n hts hG rfl rfl rfl ⟨rfl, hy⟩ ⟨by show d + 1 ≤ _; omega, by show 8 + (nL2 + 11) + 60 * d ≤ _; omega⟩) ⟨fun a U g mk q => ⟨q.1, q.2.blind⟩, va_recv hK hP hct (qa_w_ao hS0), fun U hU hW => ⟨rfl, by rw [hU], by rw [hU]; exact hP, va_K.moved hW.alike hK, by rw [hU]; exact hEU U hW, hI⟩⟩ rfl hn hl.1 rfl (lv_room hrest) hd ⟨by omega, by omega⟩) hS (fun q _ h => hAA q h) hAA (fun u t H1 locs1 ht hvm hw hB hz1 hk1 hS1 => ?_)
  exact k H1 locs1 ls (by rw [← ht]; exact hB) hS1 hl
theorem qi_callSi (hC : QC X l0 Y cc own nL D) {index n nL2 d : Nat} {y : MethodName} {b : ByteArray} {ret : Option FieldType} {r : Int32} {as stk : List Value} {m2 : qaM} (hM : qaMi l0 Y y b nL2 ret d as m m2 r) (hc : qaCS own index y n) (hcode : Cond.code y b nL2 (ret) ∈ qaWL) (hn : as.length = n) (hst : as.reverse ++ st = stk) (hd1 : d + 1 ≤ D) (hd2 : nL2 ≤ 40) (hrest : (st.map fun v => v.category).sum ≤ 8) (hd : decode cc pc = .ok (.invokestatic index, 3)) (k : QG X Y nL m2 (pc + 3) lv (.int r :: st)) : QG X Y nL m pc lv stk := by
  obtain ⟨p, l, e, R, s, mid, args, below, meth, c, Q, A, cells, slots⟩ := X
  obtain ⟨⟨hl0, hx, hb, hlk, hml, hown⟩, hts, hK, hE, hI, hAi, hAn, hD1, hD2, hD3, hD4⟩ := hC
  intro H locs ls hP hS hl
  subst hl0
  subst hst
  obtain ⟨⟨w1, w2, w3⟩, hy⟩ := hc
  have hG : GoodIn qaWL (va_wsS own index y (.code y b nL2 (ret) :: qaWL)) := by
    intro w hw
    unfold va_wsS at hw
    rcases List.mem_append.mp hw with hw | hw
    · simp only [List.mem_cons, List.not_mem_nil, or_false] at hw
      rcases hw with rfl | rfl | rfl
      · exact ⟨w1, qa_good w1⟩
      · exact ⟨w2, qa_good w2⟩
      · exact ⟨w3, qa_good w3⟩
    · exact qa_gi hcode w hw
  have hAA : ∀ q : Nat, qa_A Y H.size q → A q := by
    rintro q (⟨i, hi, rfl⟩ | hq)
    · exact hAi i hi
    · exact hAn q (Nat.le_trans hS.1 hq)
  have hEU : ∀ U : State, s.WarmedH U.vm → qa_E Y (qa_A Y H.size) U H := fun U hW => ((hE.kept hS.2.1).narrow hAA).warm hW
  refine va_calli (va_runS (As := as) (rest := st) ⟨hx, hb, hml, hown, hts⟩ (hM H.size) (va_cwS n hts hG rfl rfl rfl hy ⟨by show d + 1 ≤ _; omega, by show 8 + (nL2 + 11) + 60 * d ≤ _; omega⟩) ⟨fun a U g mk q => ⟨q.1, q.2.blind⟩, fun U hU hW => ⟨rfl, by rw [hU], by rw [hU]; exact hP, va_K.moved hW.alike hK, by rw [hU]; exact hEU U hW, hI⟩⟩ rfl hn hl.1 rfl (lv_room hrest) hd ⟨by omega, by omega⟩) hS (fun q _ h => hAA q h) hAA (fun r1 u t H1 locs1 ht hvm hw hB hz1 hk1 hS1 => ?_)
  subst hw
  exact k H1 locs1 ls (by rw [← ht]; exact hB) hS1 hl
theorem qi_callSl (hC : QC X l0 Y cc own nL D) {index n nL2 d : Nat} {y : MethodName} {b : ByteArray} {ret : Option FieldType} {r : Int64} {as stk : List Value} {m2 : qaM} (hM : qaMl l0 Y y b nL2 ret d as m m2 r) (hc : qaCS own index y n) (hcode : Cond.code y b nL2 (ret) ∈ qaWL) (hn : as.length = n) (hst : as.reverse ++ st = stk) (hd1 : d + 1 ≤ D) (hd2 : nL2 ≤ 40) (hrest : (st.map fun v => v.category).sum ≤ 8) (hd : decode cc pc = .ok (.invokestatic index, 3)) (k : QG X Y nL m2 (pc + 3) lv (.long r :: st)) : QG X Y nL m pc lv stk := by
  obtain ⟨p, l, e, R, s, mid, args, below, meth, c, Q, A, cells, slots⟩ := X
  obtain ⟨⟨hl0, hx, hb, hlk, hml, hown⟩, hts, hK, hE, hI, hAi, hAn, hD1, hD2, hD3, hD4⟩ := hC
  intro H locs ls hP hS hl
  subst hl0
  subst hst
  obtain ⟨⟨w1, w2, w3⟩, hy⟩ := hc
  have hG : GoodIn qaWL (va_wsS own index y (.code y b nL2 (ret) :: qaWL)) := by
    intro w hw
    unfold va_wsS at hw
    rcases List.mem_append.mp hw with hw | hw
    · simp only [List.mem_cons, List.not_mem_nil, or_false] at hw
      rcases hw with rfl | rfl | rfl
      · exact ⟨w1, qa_good w1⟩
      · exact ⟨w2, qa_good w2⟩
      · exact ⟨w3, qa_good w3⟩
    · exact qa_gi hcode w hw
  have hAA : ∀ q : Nat, qa_A Y H.size q → A q := by
    rintro q (⟨i, hi, rfl⟩ | hq)
    · exact hAi i hi
    · exact hAn q (Nat.le_trans hS.1 hq)
  have hEU : ∀ U : State, s.WarmedH U.vm → qa_E Y (qa_A Y H.size) U H := fun U hW => ((hE.kept hS.2.1).narrow hAA).warm hW
  refine va_calll (va_runS (As := as) (rest := st) ⟨hx, hb, hml, hown, hts⟩ (hM H.size) (va_cwS n hts hG rfl rfl rfl hy ⟨by show d + 1 ≤ _; omega, by show 8 + (nL2 + 11) + 60 * d ≤ _; omega⟩) ⟨fun a U g mk q => ⟨q.1, q.2.blind⟩, fun U hU hW => ⟨rfl, by rw [hU], by rw [hU]; exact hP, va_K.moved hW.alike hK, by rw [hU]; exact hEU U hW, hI⟩⟩ rfl hn hl.1 rfl (lv_room hrest) hd ⟨by omega, by omega⟩) hS (fun q _ h => hAA q h) hAA (fun r1 u t H1 locs1 ht hvm hw hB hz1 hk1 hS1 => ?_)
  subst hw
  exact k H1 locs1 ls (by rw [← ht]; exact hB) hS1 hl
theorem qi_callSv (hC : QC X l0 Y cc own nL D) {index n nL2 d : Nat} {y : MethodName} {b : ByteArray}  {as stk : List Value} {m2 : qaM} (hM : qaMv l0 Y y b nL2  d as m m2) (hc : qaCS own index y n) (hcode : Cond.code y b nL2 (none) ∈ qaWL) (hn : as.length = n) (hst : as.reverse ++ st = stk) (hd1 : d + 1 ≤ D) (hd2 : nL2 ≤ 40) (hrest : (st.map fun v => v.category).sum ≤ 8) (hd : decode cc pc = .ok (.invokestatic index, 3)) (k : QG X Y nL m2 (pc + 3) lv st) : QG X Y nL m pc lv stk := by
  obtain ⟨p, l, e, R, s, mid, args, below, meth, c, Q, A, cells, slots⟩ := X
  obtain ⟨⟨hl0, hx, hb, hlk, hml, hown⟩, hts, hK, hE, hI, hAi, hAn, hD1, hD2, hD3, hD4⟩ := hC
  intro H locs ls hP hS hl
  subst hl0
  subst hst
  obtain ⟨⟨w1, w2, w3⟩, hy⟩ := hc
  have hG : GoodIn qaWL (va_wsS own index y (.code y b nL2 (none) :: qaWL)) := by
    intro w hw
    unfold va_wsS at hw
    rcases List.mem_append.mp hw with hw | hw
    · simp only [List.mem_cons, List.not_mem_nil, or_false] at hw
      rcases hw with rfl | rfl | rfl
      · exact ⟨w1, qa_good w1⟩
      · exact ⟨w2, qa_good w2⟩
      · exact ⟨w3, qa_good w3⟩
    · exact qa_gi hcode w hw
  have hAA : ∀ q : Nat, qa_A Y H.size q → A q := by
    rintro q (⟨i, hi, rfl⟩ | hq)
    · exact hAi i hi
    · exact hAn q (Nat.le_trans hS.1 hq)
  have hEU : ∀ U : State, s.WarmedH U.vm → qa_E Y (qa_A Y H.size) U H := fun U hW => ((hE.kept hS.2.1).narrow hAA).warm hW
  refine va_callv (va_runS (As := as) (rest := st) ⟨hx, hb, hml, hown, hts⟩ (hM H.size) (va_cwS n hts hG rfl rfl rfl hy ⟨by show d + 1 ≤ _; omega, by show 8 + (nL2 + 11) + 60 * d ≤ _; omega⟩) ⟨fun a U g mk q => ⟨q.1, q.2.blind⟩, fun U hU hW => ⟨rfl, by rw [hU], by rw [hU]; exact hP, va_K.moved hW.alike hK, by rw [hU]; exact hEU U hW, hI⟩⟩ rfl hn hl.1 rfl (lv_room hrest) hd ⟨by omega, by omega⟩) hS (fun q _ h => hAA q h) hAA (fun u t H1 locs1 ht hvm hw hB hz1 hk1 hS1 => ?_)
  exact k H1 locs1 ls (by rw [← ht]; exact hB) hS1 hl
theorem qi_callSr (hC : QC X l0 Y cc own nL D) {index n nL2 d : Nat} {y : MethodName} {b : ByteArray} {ret : Option FieldType} {r : Nat} {as stk : List Value} {m2 : qaM} (hM : qaMr l0 Y y b nL2 ret d as m m2 r) (hc : qaCS own index y n) (hcode : Cond.code y b nL2 (ret) ∈ qaWL) (hn : as.length = n) (hst : as.reverse ++ st = stk) (hd1 : d + 1 ≤ D) (hd2 : nL2 ≤ 40) (hrest : (st.map fun v => v.category).sum ≤ 8) (hd : decode cc pc = .ok (.invokestatic index, 3)) (k : QG X Y nL m2 (pc + 3) lv (.ref r :: st)) : QG X Y nL m pc lv stk := by
  obtain ⟨p, l, e, R, s, mid, args, below, meth, c, Q, A, cells, slots⟩ := X
  obtain ⟨⟨hl0, hx, hb, hlk, hml, hown⟩, hts, hK, hE, hI, hAi, hAn, hD1, hD2, hD3, hD4⟩ := hC
  intro H locs ls hP hS hl
  subst hl0
  subst hst
  obtain ⟨⟨w1, w2, w3⟩, hy⟩ := hc
  have hG : GoodIn qaWL (va_wsS own index y (.code y b nL2 (ret) :: qaWL)) := by
    intro w hw
    unfold va_wsS at hw
    rcases List.mem_append.mp hw with hw | hw
    · simp only [List.mem_cons, List.not_mem_nil, or_false] at hw
      rcases hw with rfl | rfl | rfl
      · exact ⟨w1, qa_good w1⟩
      · exact ⟨w2, qa_good w2⟩
      · exact ⟨w3, qa_good w3⟩
    · exact qa_gi hcode w hw
  have hAA : ∀ q : Nat, qa_A Y H.size q → A q := by
    rintro q (⟨i, hi, rfl⟩ | hq)
    · exact hAi i hi
    · exact hAn q (Nat.le_trans hS.1 hq)
  have hEU : ∀ U : State, s.WarmedH U.vm → qa_E Y (qa_A Y H.size) U H := fun U hW => ((hE.kept hS.2.1).narrow hAA).warm hW
  refine va_callr (va_runS (As := as) (rest := st) ⟨hx, hb, hml, hown, hts⟩ (hM H.size) (va_cwS n hts hG rfl rfl rfl hy ⟨by show d + 1 ≤ _; omega, by show 8 + (nL2 + 11) + 60 * d ≤ _; omega⟩) ⟨fun a U g mk q => ⟨q.1, q.2.blind⟩, fun U hU hW => ⟨rfl, by rw [hU], by rw [hU]; exact hP, va_K.moved hW.alike hK, by rw [hU]; exact hEU U hW, hI⟩⟩ rfl hn hl.1 rfl (lv_room hrest) hd ⟨by omega, by omega⟩) hS (fun q _ h => hAA q h) hAA (fun u r1 t H1 locs1 ht hvm hw hB hz1 hk1 hS1 => ?_)
  obtain ⟨rfl, hB⟩ := hB
  exact k H1 locs1 ls (by rw [← ht]; exact hB) hS1 hl
end
