/-! THE START: constants, classes, both made, the loop -/
theorem lw_wl {w : Cond} (h : w ∈ qaWL) : w ∈ lw_tbl := (List.mem_filter.mp h).1
theorem lw_atT (i : Nat) {w : Cond} (h : tables_1[i]? = some w) : w ∈ lw_tbl := List.mem_append_right _ (List.mem_of_getElem? h)
abbrev lw_fl : List Cond := flatC (Jvm.Cond.and given_1 narrow_1)
abbrev lw_tG : Term := .static "AlwaysTheTopTwo" "GREATEST" "[I"
abbrev lw_tS (i : Nat) : Term := .string "AlwaysTheTopTwo$Tape" (100 + 2 * i)
abbrev lw_tV (i : Nat) : Term := .field (lw_tS i) "java/lang/String" "value" "[B"
theorem lw_g1 : Cond.arrayOf lw_tG .int ∈ lw_fl := by decide +kernel
theorem lw_g2 : Cond.eq (.length lw_tG) (.int (Int32.ofNat 4)) ∈ lw_fl := by decide +kernel
theorem lw_g3 : ∀ j : Nat, j < 4 → Cond.eq (.elem lw_tG (.int (Int32.ofNat j))) (.int (qa_gr j)) ∈ lw_fl := by decide +kernel
theorem lw_g4 : Cond.eq (.static "java/lang/String" "COMPACT_STRINGS" "Z") (.int 1) ∈ lw_fl := by decide +kernel
theorem lw_g5 : Cond.isRef (.static "jdk/internal/util/Preconditions" "SIOOBE_FORMATTER" "Ljava/util/function/BiFunction;") ∈ lw_fl := by decide +kernel
theorem lw_s1 : ∀ i : Nat, i < 12 → Cond.exactly (lw_tS i) "java/lang/String" ∈ lw_fl := by decide +kernel
theorem lw_s2 : ∀ i : Nat, i < 12 → Cond.eq (.field (lw_tS i) "java/lang/String" "coder" "B") (.int 0) ∈ lw_fl := by decide +kernel
theorem lw_s3 : ∀ i : Nat, i < 12 → Cond.arrayOf (lw_tV i) .byte ∈ lw_fl := by decide +kernel
theorem lw_s4 : ∀ i : Nat, i < 12 → Cond.eq (.length (lw_tV i)) (.int (Int32.ofNat (qa_tl.getD i 0))) ∈ lw_fl := by decide +kernel
theorem lw_s5 : ∀ i : Nat, i < 12 → ∀ j : Nat, j < qa_tl.getD i 0 → Cond.eq (.elem (lw_tV i) (.int (Int32.ofNat j))) (.int ((qa_tb8.getD i []).getD j 0)) ∈ lw_fl := by decide +kernel
theorem lw_s6 : ∀ i : Nat, i < 12 → ∀ j : Nat, j < 12 → i ≠ j → (Cond.not (Cond.eq (lw_tS i) (lw_tS j)) ∈ lw_fl ∨ Cond.not (Cond.eq (lw_tS j) (lw_tS i)) ∈ lw_fl) := by decide +kernel
theorem lw_s7 : ∀ i : Nat, i < 12 → tables_1[245 + i]? = some (Cond.stringRef "AlwaysTheTopTwo$Tape" (100 + 2 * i) (qa_tx.getD i "")) := by decide +kernel
theorem lw_s0 : ∀ i : Nat, i < 12 → qa_tl.getD i 0 < 2 ^ 31 := by decide +kernel
theorem lw_E {s : State} {b : Addr} (hgv : (Jvm.Cond.and given_1 narrow_1).before #[Value.ref b] s = true) (hts : ∀ w ∈ lw_tbl, w.before #[Value.ref b] s = true) : ∃ kd : Nat → Nat, ∀ (D : va_G) (cI : ClassId) (ad : Nat → Nat), qa_E (D, cI, ad, kd) (fun q => s.heap.size ≤ q) s s.heap := by
  have hs := flat_of_before _ hgv
  have hA : ∀ a : Nat, a < s.heap.size → ¬ (fun q : Nat => s.heap.size ≤ q) a := fun a h q => absurd h (Nat.not_lt.mpr q)
  obtain ⟨t, ht, hT⟩ := va_Tof (tm := lw_tG) (ty := .int) (N := 4) (f := fun j => .int (qa_gr j)) (A := fun q => s.heap.size ≤ q) (by decide) (hs _ lw_g1) (va_eqt (hs _ lw_g2)) (fun j hj => va_eqt (hs _ (lw_g3 j hj))) hA
  obtain ⟨adK, adV, hS, hev⟩ := vk_Sof (N := 12) (tm := lw_tS) (len := qa_tl) (byt := qa_tb8) (A := fun q => s.heap.size ≤ q) lw_s0 (fun i hi => hs _ (lw_s1 i hi)) (fun i hi => hs _ (lw_s2 i hi)) (fun i hi => hs _ (lw_s3 i hi)) (fun i hi => hs _ (lw_s4 i hi)) (fun i hi j hj => hs _ (lw_s5 i hi j hj)) (fun i j hi hj hij => (lw_s6 i hi j hj hij).elim (fun h => Or.inl (hs _ h)) (fun h => Or.inr (hs _ h))) hA
  obtain ⟨kd, hkd⟩ : ∃ kd : Nat → Nat, kd = fun j => if j = 0 then t else if j < 13 then adK (j - 1) else adV (j - 13) := ⟨_, rfl⟩
  have e0 : kd 0 = t := by rw [hkd]; rfl
  have eK : ∀ i : Nat, i < 12 → kd (1 + i) = adK i := by
    intro i hi
    rw [hkd]
    show (if 1 + i = 0 then t else if 1 + i < 13 then adK (1 + i - 1) else adV (1 + i - 13)) = _
    rw [if_neg (by omega), if_pos (by omega), show 1 + i - 1 = i by omega]
  have eV : ∀ i : Nat, i < 12 → kd (13 + i) = adV i := by
    intro i hi
    rw [hkd]
    show (if 13 + i = 0 then t else if 13 + i < 13 then adK (13 + i - 1) else adV (13 + i - 13)) = _
    rw [if_neg (by omega), if_neg (by omega), show 13 + i - 13 = i by omega]
  refine ⟨kd, fun D cI ad => ⟨?_, ?_, ?_, ?_, ?_, ?_, ?_⟩⟩
  · show va_Z _ _ _ (.ref (kd 0)) _ _ _
    rw [e0]
    exact va_Zof (hts (.laysStatic "AlwaysTheTopTwo" "GREATEST" "[I") (lw_atT 203 (by decide +kernel))) (hts (.initialized "AlwaysTheTopTwo") (lw_atT 1 (by decide +kernel))) ht hA
  · show va_T _ (kd 0) _ _ _ _ _
    rw [e0]
    exact hT
  · exact va_Zof (hts (.laysStatic "java/lang/String" "COMPACT_STRINGS" "Z") (lw_atT 270 (by decide +kernel))) (hts (.initialized "java/lang/String") (lw_atT 9 (by decide +kernel))) (va_eqi (hs _ lw_g4)) hA
  · exact va_Zqof (hts (.laysStatic "jdk/internal/util/Preconditions" "SIOOBE_FORMATTER" "Ljava/util/function/BiFunction;") (lw_atT 286 (by decide +kernel))) (hts (.initialized "jdk/internal/util/Preconditions") (lw_atT 11 (by decide +kernel))) (hs _ lw_g5) hA
  · refine ⟨fun i hi => ?_, fun i j hi hj e => hS.2 i j hi hj ?_⟩
    · show va_O _ (kd (1 + i)) _ _ _ ∧ va_OF _ _ _ _ (kd (1 + i)) _ _ _ ∧ va_OF _ _ _ (.ref (kd (13 + i))) (kd (1 + i)) _ _ _ ∧ va_T _ (kd (13 + i)) _ _ _ _ _
      rw [eK i hi, eV i hi]
      exact hS.1 i hi
    · have e' : kd (1 + i) = kd (1 + j) := e
      rw [eK i hi, eK j hj] at e'
      exact e'
  · intro i hi
    show vk_R _ _ _ (kd (1 + i)) _
    rw [eK i hi]
    exact vk_R.of (hts _ (lw_atT _ (lw_s7 i hi))) (hev i hi)
  · exact va_Nw.of rfl (hts (.methodLinkNest "AlwaysTheTopTwo$Sheets" 21 ⟨"AlwaysTheTopTwo", "isSheet", "(I)Z"⟩ "AlwaysTheTopTwo") (lw_atT 645 (by decide +kernel)))
theorem lw_N {s : State} {b : Addr} (hts : ∀ w ∈ lw_tbl, w.before #[Value.ref b] s = true) : qaNf s :=
  ⟨va_Nw.of rfl (hts (.methodLinkNest "AlwaysTheTopTwo" 18 ⟨"AlwaysTheTopTwo$Tape", "<init>", "()V"⟩ "AlwaysTheTopTwo") (lw_atT 52 (by decide +kernel))), va_Nw.of rfl (hts (.methodLinkNest "AlwaysTheTopTwo" 43 ⟨"AlwaysTheTopTwo$Sheets", "<init>", "()V"⟩ "AlwaysTheTopTwo") (lw_atT 153 (by decide +kernel))), va_Nw.of rfl (hts (.methodLinkNest "AlwaysTheTopTwo$House" 11 ⟨"AlwaysTheTopTwo$Linen", "<init>", "()V"⟩ "AlwaysTheTopTwo") (lw_atT 84 (by decide +kernel))), va_Nw.of rfl (hts (.methodLinkNest "AlwaysTheTopTwo$House" 20 ⟨"AlwaysTheTopTwo$Pile", "<init>", "()V"⟩ "AlwaysTheTopTwo") (lw_atT 99 (by decide +kernel)))⟩
theorem lw_K {s : State} {b : Addr} (hts : ∀ w ∈ lw_tbl, w.before #[Value.ref b] s = true) : ∃ (D : va_G) (cI : ClassId), va_K D vwCl [(cI, .int)] s := by
  obtain ⟨c0, iS0, hKn0⟩ := u_known (C := RX0) (T := TX0) (N := 10) (n := 10) hts (fun w hw => lw_wl (kinX0 w hw)) (hts (.instantiable RX0 10) (lw_atT 77 (by decide +kernel)))
  obtain ⟨c1, iS1, hKn1⟩ := u_known (C := RX1) (T := TX1) (N := 2) (n := 2) hts (fun w hw => lw_wl (kinX1 w hw)) (hts (.instantiable RX1 2) (lw_atT 83 (by decide +kernel)))
  obtain ⟨c2, iS2, hKn2⟩ := u_known (C := RX2) (T := TX2) (N := 2) (n := 2) hts (fun w hw => lw_wl (kinX2 w hw)) (hts (.instantiable RX2 2) (lw_atT 98 (by decide +kernel)))
  obtain ⟨c3, iS3, hKn3⟩ := u_known (C := RX3) (T := TX3) (N := 3) (n := 3) hts (fun w hw => lw_wl (kinX3 w hw)) (hts (.instantiable RX3 3) (lw_atT 152 (by decide +kernel)))
  obtain ⟨c4, iS4, hKn4⟩ := u_known (C := RX4) (T := TX4) (N := 6) (n := 6) hts (fun w hw => lw_wl (kinX4 w hw)) (hts (.instantiable RX4 6) (lw_atT 51 (by decide +kernel)))
  obtain ⟨c5, iS5, hKn5⟩ := u_known (C := RX5) (T := TX5) (N := 6) (n := 6) hts (fun w hw => lw_wl (kinX5 w hw)) (hts (.instantiable RX5 6) (lw_atT 24 (by decide +kernel)))
  obtain ⟨c6, iS6, hKn6⟩ := u_known (C := RX6) (T := TX6) (N := 8) (n := 8) hts (fun w hw => lw_wl (kinX6 w hw)) (hts (.instantiable RX6 8) (lw_atT 16 (by decide +kernel)))
  obtain ⟨c7, iS7, hKn7⟩ := u_known (C := RX7) (T := TX7) (N := 47) (n := 47) hts (fun w hw => lw_wl (kinX7 w hw)) (hts (.instantiable RX7 47) (lw_atT 766 (by decide +kernel)))
  obtain ⟨cI, kA, comp, h1, h2, h3⟩ := Cond.arrayClass_spec (args := #[Value.ref b]) (first := s) (o := none) (s := s) (idx := []) (type := .int) (hts _ (lw_wl om_arr))
  refine ⟨(fun k => if k = 0 then c0 else if k = 1 then c1 else if k = 2 then c2 else if k = 3 then c3 else if k = 4 then c4 else if k = 5 then c5 else if k = 6 then c6 else c7, fun k => if k = 0 then iS0 else if k = 1 then iS1 else if k = 2 then iS2 else if k = 3 then iS3 else if k = 4 then iS4 else if k = 5 then iS5 else if k = 6 then iS6 else iS7), cI, fun k q hq => ?_, fun k q hk => ?_⟩
  · match k, hq with
    | 0, hq => cases hq; exact hKn0
    | 1, hq => cases hq; exact hKn1
    | 2, hq => cases hq; exact hKn2
    | 3, hq => cases hq; exact hKn3
    | 4, hq => cases hq; exact hKn4
    | 5, hq => cases hq; exact hKn5
    | 6, hq => cases hq; exact hKn6
    | 7, hq => cases hq; exact hKn7
    | k + 8, hq => simp [vwCl] at hq
  · match k, hk with
    | 0, hk =>
      cases hk
      exact ⟨fun n z => ⟨fun k h => (by cases h), kA, h2, comp, h3⟩, h1⟩
    | k + 1, hk => simp at hk
def lw_Y0 (D : va_G) (cI : ClassId) (kd : Nat → Nat) (q : Nat) (u : Nat × Nat × Nat × Nat × Nat × Nat × Nat × Nat × Nat × Nat × Nat × Nat × Nat × Nat × Nat × Nat × Nat × Nat × Nat × Nat × Nat × Nat × Nat × Nat × Nat × Nat × Nat × Nat × Nat × Nat × Nat × Nat × Nat × Nat × Nat) : qaY := (D, cI, fun i => ([q, u.1, u.2.1, u.2.2.1, u.2.2.2.1, u.2.2.2.2.1, u.2.2.2.2.2.1, u.2.2.2.2.2.2.1, u.2.2.2.2.2.2.2.1, u.2.2.2.2.2.2.2.2.1, u.2.2.2.2.2.2.2.2.2.1, u.2.2.2.2.2.2.2.2.2.2.1, u.2.2.2.2.2.2.2.2.2.2.2.1, u.2.2.2.2.2.2.2.2.2.2.2.2.1, u.2.2.2.2.2.2.2.2.2.2.2.2.2.1, u.2.2.2.2.2.2.2.2.2.2.2.2.2.2.1, u.2.2.2.2.2.2.2.2.2.2.2.2.2.2.2.1, u.2.2.2.2.2.2.2.2.2.2.2.2.2.2.2.2.1, u.2.2.2.2.2.2.2.2.2.2.2.2.2.2.2.2.2.1, u.2.2.2.2.2.2.2.2.2.2.2.2.2.2.2.2.2.2.1, u.2.2.2.2.2.2.2.2.2.2.2.2.2.2.2.2.2.2.2.1, u.2.2.2.2.2.2.2.2.2.2.2.2.2.2.2.2.2.2.2.2.1, u.2.2.2.2.2.2.2.2.2.2.2.2.2.2.2.2.2.2.2.2.2.1, u.2.2.2.2.2.2.2.2.2.2.2.2.2.2.2.2.2.2.2.2.2.2.1, u.2.2.2.2.2.2.2.2.2.2.2.2.2.2.2.2.2.2.2.2.2.2.2.1, u.2.2.2.2.2.2.2.2.2.2.2.2.2.2.2.2.2.2.2.2.2.2.2.2.1, u.2.2.2.2.2.2.2.2.2.2.2.2.2.2.2.2.2.2.2.2.2.2.2.2.2.1, u.2.2.2.2.2.2.2.2.2.2.2.2.2.2.2.2.2.2.2.2.2.2.2.2.2.2.1, u.2.2.2.2.2.2.2.2.2.2.2.2.2.2.2.2.2.2.2.2.2.2.2.2.2.2.2.1, u.2.2.2.2.2.2.2.2.2.2.2.2.2.2.2.2.2.2.2.2.2.2.2.2.2.2.2.2.1, u.2.2.2.2.2.2.2.2.2.2.2.2.2.2.2.2.2.2.2.2.2.2.2.2.2.2.2.2.2.1, u.2.2.2.2.2.2.2.2.2.2.2.2.2.2.2.2.2.2.2.2.2.2.2.2.2.2.2.2.2.2.1, u.2.2.2.2.2.2.2.2.2.2.2.2.2.2.2.2.2.2.2.2.2.2.2.2.2.2.2.2.2.2.2.1, u.2.2.2.2.2.2.2.2.2.2.2.2.2.2.2.2.2.2.2.2.2.2.2.2.2.2.2.2.2.2.2.2.1, u.2.2.2.2.2.2.2.2.2.2.2.2.2.2.2.2.2.2.2.2.2.2.2.2.2.2.2.2.2.2.2.2.2.1, u.2.2.2.2.2.2.2.2.2.2.2.2.2.2.2.2.2.2.2.2.2.2.2.2.2.2.2.2.2.2.2.2.2.2] : List Nat).getD i 0, kd)
theorem lw_S36 : qaS36 = [.inr (6, [some 1, some 6, some 8, some 14, some 20, some 26, some 32, none]), .inr (5, [none, some 2, some 3, some 4, some 5, none]), .inl 960, .inl 18, .inl 6, .inl 160, .inr (4, [none, some 7, none, none, none, none]), .inl 160, .inr (0, [some 9, some 11, some 13, none, none, none, none, none, none, some 1]), .inr (1, [none, some 10]), .inl 56, .inr (2, [none, some 12]), .inl 8, .inl 4, .inr (0, [some 15, some 17, some 19, none, none, none, none, none, none, some 1]), .inr (1, [none, some 16]), .inl 56, .inr (2, [none, some 18]), .inl 8, .inl 4, .inr (0, [some 21, some 23, some 25, none, none, none, none, none, none, some 1]), .inr (1, [none, some 22]), .inl 56, .inr (2, [none, some 24]), .inl 8, .inl 4, .inr (0, [some 27, some 29, some 31, none, none, none, none, none, none, some 1]), .inr (1, [none, some 28]), .inl 56, .inr (2, [none, some 30]), .inl 8, .inl 4, .inr (3, [some 33, some 34, some 35]), .inl 4, .inl 4, .inl 160] := by decide +kernel
set_option maxRecDepth 100000 in
set_option maxHeartbeats 4000000 in
theorem lw_w36 (D : va_G) (cI : ClassId) (kd : Nat → Nat) (q : Nat) (u : Nat × Nat × Nat × Nat × Nat × Nat × Nat × Nat × Nat × Nat × Nat × Nat × Nat × Nat × Nat × Nat × Nat × Nat × Nat × Nat × Nat × Nat × Nat × Nat × Nat × Nat × Nat × Nat × Nat × Nat × Nat × Nat × Nat × Nat × Nat) : qa_w (lw_Y0 D cI kd q u) qaS36 qa_m0 = [(q, .inr (6, [.ref u.1, .ref u.2.2.2.2.2.1, .ref u.2.2.2.2.2.2.2.1, .ref u.2.2.2.2.2.2.2.2.2.2.2.2.2.1, .ref u.2.2.2.2.2.2.2.2.2.2.2.2.2.2.2.2.2.2.2.1, .ref u.2.2.2.2.2.2.2.2.2.2.2.2.2.2.2.2.2.2.2.2.2.2.2.2.2.1, .ref u.2.2.2.2.2.2.2.2.2.2.2.2.2.2.2.2.2.2.2.2.2.2.2.2.2.2.2.2.2.2.2.1, .int 0])), (u.1, .inr (5, [.int 1, .ref u.2.1, .ref u.2.2.1, .ref u.2.2.2.1, .ref u.2.2.2.2.1, .int 0])), (u.2.1, .inl (cI, 960, .inl ca_X5_65)), (u.2.2.1, .inl (cI, 18, .inl ca_X5_86)), (u.2.2.2.1, .inl (cI, 6, .inl (fun _ => 0))), (u.2.2.2.2.1, .inl (cI, 160, .inl (fun _ => 0))), (u.2.2.2.2.2.1, .inr (4, [.int 0, .ref u.2.2.2.2.2.2.1, .int 0, .int 0, .int 0, .int 0])), (u.2.2.2.2.2.2.1, .inl (cI, 160, .inl (fun _ => 0))), (u.2.2.2.2.2.2.2.1, .inr (0, [.ref u.2.2.2.2.2.2.2.2.1, .ref u.2.2.2.2.2.2.2.2.2.2.1, .ref u.2.2.2.2.2.2.2.2.2.2.2.2.1, .int 0, .int 0, .int 0, .int 0, .int (-1), .int 0, .ref u.1])), (u.2.2.2.2.2.2.2.2.1, .inr (1, [.int 0, .ref u.2.2.2.2.2.2.2.2.2.1])), (u.2.2.2.2.2.2.2.2.2.1, .inl (cI, 56, .inl (fun _ => 0))), (u.2.2.2.2.2.2.2.2.2.2.1, .inr (2, [.int 0, .ref u.2.2.2.2.2.2.2.2.2.2.2.1])), (u.2.2.2.2.2.2.2.2.2.2.2.1, .inl (cI, 8, .inl (fun _ => 0))), (u.2.2.2.2.2.2.2.2.2.2.2.2.1, .inl (cI, 4, .inl ca_X0_45)), (u.2.2.2.2.2.2.2.2.2.2.2.2.2.1, .inr (0, [.ref u.2.2.2.2.2.2.2.2.2.2.2.2.2.2.1, .ref u.2.2.2.2.2.2.2.2.2.2.2.2.2.2.2.2.1, .ref u.2.2.2.2.2.2.2.2.2.2.2.2.2.2.2.2.2.2.1, .int 0, .int 0, .int 0, .int 0, .int (-1), .int 0, .ref u.1])), (u.2.2.2.2.2.2.2.2.2.2.2.2.2.2.1, .inr (1, [.int 0, .ref u.2.2.2.2.2.2.2.2.2.2.2.2.2.2.2.1])), (u.2.2.2.2.2.2.2.2.2.2.2.2.2.2.2.1, .inl (cI, 56, .inl (fun _ => 0))), (u.2.2.2.2.2.2.2.2.2.2.2.2.2.2.2.2.1, .inr (2, [.int 0, .ref u.2.2.2.2.2.2.2.2.2.2.2.2.2.2.2.2.2.1])), (u.2.2.2.2.2.2.2.2.2.2.2.2.2.2.2.2.2.1, .inl (cI, 8, .inl (fun _ => 0))), (u.2.2.2.2.2.2.2.2.2.2.2.2.2.2.2.2.2.2.1, .inl (cI, 4, .inl ca_X0_45)), (u.2.2.2.2.2.2.2.2.2.2.2.2.2.2.2.2.2.2.2.1, .inr (0, [.ref u.2.2.2.2.2.2.2.2.2.2.2.2.2.2.2.2.2.2.2.2.1, .ref u.2.2.2.2.2.2.2.2.2.2.2.2.2.2.2.2.2.2.2.2.2.2.1, .ref u.2.2.2.2.2.2.2.2.2.2.2.2.2.2.2.2.2.2.2.2.2.2.2.2.1, .int 0, .int 0, .int 0, .int 0, .int (-1), .int 0, .ref u.1])), (u.2.2.2.2.2.2.2.2.2.2.2.2.2.2.2.2.2.2.2.2.1, .inr (1, [.int 0, .ref u.2.2.2.2.2.2.2.2.2.2.2.2.2.2.2.2.2.2.2.2.2.1])), (u.2.2.2.2.2.2.2.2.2.2.2.2.2.2.2.2.2.2.2.2.2.1, .inl (cI, 56, .inl (fun _ => 0))), (u.2.2.2.2.2.2.2.2.2.2.2.2.2.2.2.2.2.2.2.2.2.2.1, .inr (2, [.int 0, .ref u.2.2.2.2.2.2.2.2.2.2.2.2.2.2.2.2.2.2.2.2.2.2.2.1])), (u.2.2.2.2.2.2.2.2.2.2.2.2.2.2.2.2.2.2.2.2.2.2.2.1, .inl (cI, 8, .inl (fun _ => 0))), (u.2.2.2.2.2.2.2.2.2.2.2.2.2.2.2.2.2.2.2.2.2.2.2.2.1, .inl (cI, 4, .inl ca_X0_45)), (u.2.2.2.2.2.2.2.2.2.2.2.2.2.2.2.2.2.2.2.2.2.2.2.2.2.1, .inr (0, [.ref u.2.2.2.2.2.2.2.2.2.2.2.2.2.2.2.2.2.2.2.2.2.2.2.2.2.2.1, .ref u.2.2.2.2.2.2.2.2.2.2.2.2.2.2.2.2.2.2.2.2.2.2.2.2.2.2.2.2.1, .ref u.2.2.2.2.2.2.2.2.2.2.2.2.2.2.2.2.2.2.2.2.2.2.2.2.2.2.2.2.2.2.1, .int 0, .int 0, .int 0, .int 0, .int (-1), .int 0, .ref u.1])), (u.2.2.2.2.2.2.2.2.2.2.2.2.2.2.2.2.2.2.2.2.2.2.2.2.2.2.1, .inr (1, [.int 0, .ref u.2.2.2.2.2.2.2.2.2.2.2.2.2.2.2.2.2.2.2.2.2.2.2.2.2.2.2.1])), (u.2.2.2.2.2.2.2.2.2.2.2.2.2.2.2.2.2.2.2.2.2.2.2.2.2.2.2.1, .inl (cI, 56, .inl (fun _ => 0))), (u.2.2.2.2.2.2.2.2.2.2.2.2.2.2.2.2.2.2.2.2.2.2.2.2.2.2.2.2.1, .inr (2, [.int 0, .ref u.2.2.2.2.2.2.2.2.2.2.2.2.2.2.2.2.2.2.2.2.2.2.2.2.2.2.2.2.2.1])), (u.2.2.2.2.2.2.2.2.2.2.2.2.2.2.2.2.2.2.2.2.2.2.2.2.2.2.2.2.2.1, .inl (cI, 8, .inl (fun _ => 0))), (u.2.2.2.2.2.2.2.2.2.2.2.2.2.2.2.2.2.2.2.2.2.2.2.2.2.2.2.2.2.2.1, .inl (cI, 4, .inl ca_X0_45)), (u.2.2.2.2.2.2.2.2.2.2.2.2.2.2.2.2.2.2.2.2.2.2.2.2.2.2.2.2.2.2.2.1, .inr (3, [.ref u.2.2.2.2.2.2.2.2.2.2.2.2.2.2.2.2.2.2.2.2.2.2.2.2.2.2.2.2.2.2.2.2.1, .ref u.2.2.2.2.2.2.2.2.2.2.2.2.2.2.2.2.2.2.2.2.2.2.2.2.2.2.2.2.2.2.2.2.2.1, .ref u.2.2.2.2.2.2.2.2.2.2.2.2.2.2.2.2.2.2.2.2.2.2.2.2.2.2.2.2.2.2.2.2.2.2])), (u.2.2.2.2.2.2.2.2.2.2.2.2.2.2.2.2.2.2.2.2.2.2.2.2.2.2.2.2.2.2.2.2.1, .inl (cI, 4, .inl ca_X3_23)), (u.2.2.2.2.2.2.2.2.2.2.2.2.2.2.2.2.2.2.2.2.2.2.2.2.2.2.2.2.2.2.2.2.2.1, .inl (cI, 4, .inl (fun _ => 0))), (u.2.2.2.2.2.2.2.2.2.2.2.2.2.2.2.2.2.2.2.2.2.2.2.2.2.2.2.2.2.2.2.2.2.2, .inl (cI, 160, .inl (fun _ => 0)))] := by
  rw [lw_S36]
  unfold qa_w
  rw [mi_eq]
  simp only [mi, qa_c, qa_f, mi_eq]
  rfl
theorem on_L_7 : qaNew RL 7 6 8 [.null, .null, .null, .null, .null, .null, .null, .int 0] := ⟨RX6, TX6, tyX6, rfl, kinX6, tyX6_ok, ⟨qa_at1 15 (by decide +kernel) rfl, qa_at1 16 (by decide +kernel) rfl, kz_X6⟩, by decide⟩
theorem on_L_10 : qaNew RL 10 7 47 qa_mo := ⟨RX7, TX7, tyX7, rfl, kinX7, tyX7_ok, ⟨qa_at4 45 (by decide +kernel) rfl, qa_at4 46 (by decide +kernel) rfl, kz_X7⟩, by decide⟩
theorem om_L_9 : Cond.methodLink RL 9 yX6_init ∈ qaWL := qa_at1 17 (by decide +kernel) rfl
theorem om_L_12 : Cond.methodLink RL 12 yX7_init ∈ qaWL := qa_at4 47 (by decide +kernel) rfl
theorem qw_astore_n {X : qaX} {l0 : Launch} {D : va_G} {cI : ClassId} {cc : ByteArray} {own : String} {nL d mc ms : Nat} {ws : va_W} {cells slots pc : Nat} {lv : List (Nat × Value)} {st : List Value} (hC : QWC X l0 D cI cc own nL d mc ms) {kf : Fin 4} {i : Nat} {x : Nat} {lv' : List (Nat × Value)} (hi : (kf : Nat) = i) (hn : i < nL) (hv : (i, Value.ref x) :: lv.filter (fun q => !(q.1 == i) && !(q.1 + 1 == i && q.2.category == 2)) = lv') (hd : decode cc pc = .ok (.astore_n kf, 1)) (k : QW X D nL ws cells slots (pc + 1) lv' st) : QW X D nL ws cells slots pc lv (.ref x :: st) := by
  obtain ⟨p, l, e, R, s, mid, args, below, meth, c, Q, A, _, _⟩ := X
  obtain ⟨⟨hl0, hx, hb, hlk, hml, hown⟩, hts, hK, hN, hAn, hR⟩ := hC
  intro H locs ls hP hDd hS hl
  exact lv_astore_n hx hb hd hi hl hn hv (fun ls' hl' => k H locs ls' hP hDd hS hl')
set_option maxRecDepth 100000 in
set_option maxHeartbeats 4000000 in
theorem lw_callM {p : Program} {l : Launch} {e : Env} {s : State} {m : MethodId} {below : List Frame} {meth : Method} {c : Code} {b : Addr} {Q : State → Prop} {D : va_G} {cI : ClassId} {Y0 : qaY} {h0 cells slots : Nat} {lv : List (Nat × Value)} {st : List Value} {m1 : qaM} (hYD : Y0.1 = D) (hYc : Y0.2.1 = cI) (hf : f_X7_init qa_m0 = some m1)
    (hC : QWC (p, l, e, room_1, s, m, #[Value.ref b], below, meth, c, Q, (fun q => s.heap.size ≤ q), 600000, 7302250) l D cI cL_law RL 4 1000 600000 7302250) (hE : qa_E Y0 (fun q => s.heap.size ≤ q) s s.heap) (hrest : (st.map fun v => v.category).sum ≤ 8) (hc : cells + 23 ≤ 600000) (hs : slots + 2338 ≤ 7302250)
    (hk : ∀ Y : qaY, Y.1 = D → Y.2.1 = cI → Y.2.2.2 = Y0.2.2.2 → (∀ i : Nat, i < 36 → Y.2.2.1 i = Y0.2.2.1 i) → Y.2.2.1 36 = h0 → qa_inj Y → (∀ i : Nat, i < 60 → s.heap.size ≤ Y.2.2.1 i) → QG (p, l, e, room_1, s, m, #[Value.ref b], below, meth, c, Q, (fun q => s.heap.size ≤ q), 600000, 7302250) Y 4 m1 15 lv st) :
    QW (p, l, e, room_1, s, m, #[Value.ref b], below, meth, c, Q, (fun q => s.heap.size ≤ q), 600000, 7302250) D 4 (qa_w Y0 qaS36 qa_m0 ++ [(h0, .inr (7, qa_mo))]) cells slots 12 lv (.ref h0 :: st) := by
  subst hYD
  subst hYc
  obtain ⟨⟨hl0, hx, hb, hlk, hml, hown⟩, hts, hK, hN, hAn, hR1, hR2, hR3, hR4⟩ := hC
  intro H locs ls hP hDd hS hl
  have hFc : ∀ q : Nat, va_A (qa_w Y0 qaS36 qa_m0 ++ [(h0, .inr (7, qa_mo))]) H.size q → s.heap.size ≤ q := by
    rintro q (⟨k, x, hk⟩ | h)
    · exact hDd.2 k _ hk
    · exact Nat.le_trans hS.1 h
  have hEU : ∀ U : State, s.WarmedH U.vm → qa_E Y0 (va_A (qa_w Y0 qaS36 qa_m0 ++ [(h0, .inr (7, qa_mo))]) H.size) U H := fun U hW => ((hE.kept hS.2.1).narrow hFc).warm hW
  refine va_callv (va_runI (As := []) (rest := st) ⟨hx, hb, hml, hown, hts⟩ (cm_X7 l Y0 h0 m1 hf H.size) (cwI 0 hts (qa_gi kc_X7_init) rfl rfl rfl (hts _ kz_X7) (hts _ om_L_12) (hts _ ki_X7_init) rfl ⟨by decide +kernel, by decide +kernel, by decide +kernel⟩ ⟨Nat.le_of_ble_eq_true rfl, Nat.le_of_ble_eq_true rfl⟩) ⟨fun a U g mk q => ⟨q.1, q.2.1.blind, qa_E.same (u := U) (U := U.calling g mk a) rfl q.2.2⟩, fun U hU hW => ⟨rfl, ⟨by rw [hU], by rw [hU]; exact hP, va_K.moved hW.alike hK, hDd.weaken (fun _ _ _ _ => trivial), hN.warm hW⟩, by rw [hU]; exact hEU U hW⟩⟩ rfl rfl hl.1 rfl (lv_room hrest) dL_law_12 ⟨hc, hs⟩) hS (fun q _ h => hFc q h) hFc (fun Y t H1 locs1 ht hvm hw hB hz1 hk1 hS1 => ?_)
  obtain ⟨⟨y1, y2, y3, y4, y5⟩, hP1, hD1⟩ := hB
  rw [ht] at hP1
  obtain ⟨hinj, hAi⟩ := qa_injD hD1
  exact W.widen hc hs (hk Y y1 y2 y3 y4 y5 hinj (fun i hi => hFc _ (hAi i hi)) H1 locs1 ls hP1 hS1 hl)
set_option maxRecDepth 100000 in
set_option maxHeartbeats 4000000 in
theorem whole_of {Rel : qaM → Prop} (hP : qaP_all Rel) {m1 : qaM} (hf : f_X7_init qa_m0 = some m1) (hRel : Rel m1) {p : Program} {e : Env} {s : State} {m : MethodId} {below : List Frame} {meth : Method} {c : Code} (l : Launch) {b L : Nat} {xs : Nat → Int32} (hL : L ≤ 3584) (C0 : lw_At p s m meth c b L xs) : W p l e room_1 s m #[Value.ref b] below meth c s.heap [] 0 0 (lw_Z below #[Value.ref b] s) (entryFrame m ([Value.ref b] : List Value).toArray 4) := by
  obtain ⟨hx, hb, hr, hml, hown, hts, hX, hbl, hlocks, hgv⟩ := C0
  obtain ⟨kd, hE⟩ := lw_E hgv hts
  obtain ⟨D, cI, hK⟩ := lw_K hts
  have hN := lw_N hts
  have htsW : ∀ w ∈ qaWL, w.before #[Value.ref b] s = true := fun w h => hts w (lw_wl h)
  have hC : QWC (p, l, e, room_1, s, m, #[Value.ref b], below, meth, c, lw_Z below #[Value.ref b] s, (fun q => s.heap.size ≤ q), 600000, 7302250) l D cI cL_law RL 4 1000 600000 7302250 :=
    ⟨⟨rfl, hx, hb, hlocks, hml, hown⟩, htsW, hK, hN, fun q h => h, Nat.le_of_ble_eq_true rfl, Nat.le_of_ble_eq_true rfl, Nat.le_of_ble_eq_true rfl, Nat.le_of_ble_eq_true rfl⟩
  have hl := lv_entry ([.ref b]) (n := 4) (Nat.le_of_ble_eq_true rfl)
  rw [lg_entry_eq]
  have hD0 : va_D (fun q : Nat => s.heap.size ≤ q) [] := ⟨fun i j p q h => by simp at h, fun k q h => by simp at h⟩
  have hP0 : va_P D vwCl [] s.heap := fun k q h => by simp at h
  have hstep : QW (p, l, e, room_1, s, m, #[Value.ref b], below, meth, c, lw_Z below #[Value.ref b] s, (fun q => s.heap.size ≤ q), 600000, 7302250) D 4 [] 0 0 0 [(0, .ref b)] [] := by
    refine qw_new hC on_L_7 (Nat.le_of_ble_eq_true rfl) (Nat.le_of_ble_eq_true rfl) dL_law_0 (fun q => ?_)
    show QW _ D 4 [(q, .inr (6, [.null, .null, .null, .null, .null, .null, .null, .int 0]))] 1 8 3 _ _
    refine qw_dup hC rfl dL_law_3 ?_
    refine qw_call hC (n := 0) (as := []) (wr := []) (wc := [(q, .inr (6, [.null, .null, .null, .null, .null, .null, .null, .int 0]))]) [0] [] (ci_X6 l D cI q) om_L_9 kc_X6_init ki_X6_init kz_X6 rfl ⟨by decide +kernel, by decide +kernel, by decide +kernel⟩ rfl rfl rfl rfl rfl rfl (by decide) (Nat.le_of_ble_eq_true rfl) (by decide) (Nat.le_of_ble_eq_true rfl) (Nat.le_of_ble_eq_true rfl) (Nat.le_of_ble_eq_true rfl) dL_law_4 (fun u => ?_)
    show QW _ D 4 [(q, .inr (6, [.ref u.1, .ref u.2.2.2.2.2.1, .ref u.2.2.2.2.2.2.2.1, .ref u.2.2.2.2.2.2.2.2.2.2.2.2.2.1, .ref u.2.2.2.2.2.2.2.2.2.2.2.2.2.2.2.2.2.2.2.1, .ref u.2.2.2.2.2.2.2.2.2.2.2.2.2.2.2.2.2.2.2.2.2.2.2.2.2.1, .ref u.2.2.2.2.2.2.2.2.2.2.2.2.2.2.2.2.2.2.2.2.2.2.2.2.2.2.2.2.2.2.2.1, .int 0])), (u.1, .inr (5, [.int 1, .ref u.2.1, .ref u.2.2.1, .ref u.2.2.2.1, .ref u.2.2.2.2.1, .int 0])), (u.2.1, .inl (cI, 960, .inl ca_X5_65)), (u.2.2.1, .inl (cI, 18, .inl ca_X5_86)), (u.2.2.2.1, .inl (cI, 6, .inl (fun _ => 0))), (u.2.2.2.2.1, .inl (cI, 160, .inl (fun _ => 0))), (u.2.2.2.2.2.1, .inr (4, [.int 0, .ref u.2.2.2.2.2.2.1, .int 0, .int 0, .int 0, .int 0])), (u.2.2.2.2.2.2.1, .inl (cI, 160, .inl (fun _ => 0))), (u.2.2.2.2.2.2.2.1, .inr (0, [.ref u.2.2.2.2.2.2.2.2.1, .ref u.2.2.2.2.2.2.2.2.2.2.1, .ref u.2.2.2.2.2.2.2.2.2.2.2.2.1, .int 0, .int 0, .int 0, .int 0, .int (-1), .int 0, .ref u.1])), (u.2.2.2.2.2.2.2.2.1, .inr (1, [.int 0, .ref u.2.2.2.2.2.2.2.2.2.1])), (u.2.2.2.2.2.2.2.2.2.1, .inl (cI, 56, .inl (fun _ => 0))), (u.2.2.2.2.2.2.2.2.2.2.1, .inr (2, [.int 0, .ref u.2.2.2.2.2.2.2.2.2.2.2.1])), (u.2.2.2.2.2.2.2.2.2.2.2.1, .inl (cI, 8, .inl (fun _ => 0))), (u.2.2.2.2.2.2.2.2.2.2.2.2.1, .inl (cI, 4, .inl ca_X0_45)), (u.2.2.2.2.2.2.2.2.2.2.2.2.2.1, .inr (0, [.ref u.2.2.2.2.2.2.2.2.2.2.2.2.2.2.1, .ref u.2.2.2.2.2.2.2.2.2.2.2.2.2.2.2.2.1, .ref u.2.2.2.2.2.2.2.2.2.2.2.2.2.2.2.2.2.2.1, .int 0, .int 0, .int 0, .int 0, .int (-1), .int 0, .ref u.1])), (u.2.2.2.2.2.2.2.2.2.2.2.2.2.2.1, .inr (1, [.int 0, .ref u.2.2.2.2.2.2.2.2.2.2.2.2.2.2.2.1])), (u.2.2.2.2.2.2.2.2.2.2.2.2.2.2.2.1, .inl (cI, 56, .inl (fun _ => 0))), (u.2.2.2.2.2.2.2.2.2.2.2.2.2.2.2.2.1, .inr (2, [.int 0, .ref u.2.2.2.2.2.2.2.2.2.2.2.2.2.2.2.2.2.1])), (u.2.2.2.2.2.2.2.2.2.2.2.2.2.2.2.2.2.1, .inl (cI, 8, .inl (fun _ => 0))), (u.2.2.2.2.2.2.2.2.2.2.2.2.2.2.2.2.2.2.1, .inl (cI, 4, .inl ca_X0_45)), (u.2.2.2.2.2.2.2.2.2.2.2.2.2.2.2.2.2.2.2.1, .inr (0, [.ref u.2.2.2.2.2.2.2.2.2.2.2.2.2.2.2.2.2.2.2.2.1, .ref u.2.2.2.2.2.2.2.2.2.2.2.2.2.2.2.2.2.2.2.2.2.2.1, .ref u.2.2.2.2.2.2.2.2.2.2.2.2.2.2.2.2.2.2.2.2.2.2.2.2.1, .int 0, .int 0, .int 0, .int 0, .int (-1), .int 0, .ref u.1])), (u.2.2.2.2.2.2.2.2.2.2.2.2.2.2.2.2.2.2.2.2.1, .inr (1, [.int 0, .ref u.2.2.2.2.2.2.2.2.2.2.2.2.2.2.2.2.2.2.2.2.2.1])), (u.2.2.2.2.2.2.2.2.2.2.2.2.2.2.2.2.2.2.2.2.2.1, .inl (cI, 56, .inl (fun _ => 0))), (u.2.2.2.2.2.2.2.2.2.2.2.2.2.2.2.2.2.2.2.2.2.2.1, .inr (2, [.int 0, .ref u.2.2.2.2.2.2.2.2.2.2.2.2.2.2.2.2.2.2.2.2.2.2.2.1])), (u.2.2.2.2.2.2.2.2.2.2.2.2.2.2.2.2.2.2.2.2.2.2.2.1, .inl (cI, 8, .inl (fun _ => 0))), (u.2.2.2.2.2.2.2.2.2.2.2.2.2.2.2.2.2.2.2.2.2.2.2.2.1, .inl (cI, 4, .inl ca_X0_45)), (u.2.2.2.2.2.2.2.2.2.2.2.2.2.2.2.2.2.2.2.2.2.2.2.2.2.1, .inr (0, [.ref u.2.2.2.2.2.2.2.2.2.2.2.2.2.2.2.2.2.2.2.2.2.2.2.2.2.2.1, .ref u.2.2.2.2.2.2.2.2.2.2.2.2.2.2.2.2.2.2.2.2.2.2.2.2.2.2.2.2.1, .ref u.2.2.2.2.2.2.2.2.2.2.2.2.2.2.2.2.2.2.2.2.2.2.2.2.2.2.2.2.2.2.1, .int 0, .int 0, .int 0, .int 0, .int (-1), .int 0, .ref u.1])), (u.2.2.2.2.2.2.2.2.2.2.2.2.2.2.2.2.2.2.2.2.2.2.2.2.2.2.1, .inr (1, [.int 0, .ref u.2.2.2.2.2.2.2.2.2.2.2.2.2.2.2.2.2.2.2.2.2.2.2.2.2.2.2.1])), (u.2.2.2.2.2.2.2.2.2.2.2.2.2.2.2.2.2.2.2.2.2.2.2.2.2.2.2.1, .inl (cI, 56, .inl (fun _ => 0))), (u.2.2.2.2.2.2.2.2.2.2.2.2.2.2.2.2.2.2.2.2.2.2.2.2.2.2.2.2.1, .inr (2, [.int 0, .ref u.2.2.2.2.2.2.2.2.2.2.2.2.2.2.2.2.2.2.2.2.2.2.2.2.2.2.2.2.2.1])), (u.2.2.2.2.2.2.2.2.2.2.2.2.2.2.2.2.2.2.2.2.2.2.2.2.2.2.2.2.2.1, .inl (cI, 8, .inl (fun _ => 0))), (u.2.2.2.2.2.2.2.2.2.2.2.2.2.2.2.2.2.2.2.2.2.2.2.2.2.2.2.2.2.2.1, .inl (cI, 4, .inl ca_X0_45)), (u.2.2.2.2.2.2.2.2.2.2.2.2.2.2.2.2.2.2.2.2.2.2.2.2.2.2.2.2.2.2.2.1, .inr (3, [.ref u.2.2.2.2.2.2.2.2.2.2.2.2.2.2.2.2.2.2.2.2.2.2.2.2.2.2.2.2.2.2.2.2.1, .ref u.2.2.2.2.2.2.2.2.2.2.2.2.2.2.2.2.2.2.2.2.2.2.2.2.2.2.2.2.2.2.2.2.2.1, .ref u.2.2.2.2.2.2.2.2.2.2.2.2.2.2.2.2.2.2.2.2.2.2.2.2.2.2.2.2.2.2.2.2.2.2])), (u.2.2.2.2.2.2.2.2.2.2.2.2.2.2.2.2.2.2.2.2.2.2.2.2.2.2.2.2.2.2.2.2.1, .inl (cI, 4, .inl ca_X3_23)), (u.2.2.2.2.2.2.2.2.2.2.2.2.2.2.2.2.2.2.2.2.2.2.2.2.2.2.2.2.2.2.2.2.2.1, .inl (cI, 4, .inl (fun _ => 0))), (u.2.2.2.2.2.2.2.2.2.2.2.2.2.2.2.2.2.2.2.2.2.2.2.2.2.2.2.2.2.2.2.2.2.2, .inl (cI, 160, .inl (fun _ => 0)))] 36 1823 7 _ _
    rw [← lw_w36 D cI kd q u]
    refine qw_astore_n hC (lv' := [(1, .ref q), (0, .ref b)]) rfl (by decide) rfl dL_law_7 ?_
    refine qw_new hC on_L_10 (Nat.le_of_ble_eq_true rfl) (Nat.le_of_ble_eq_true rfl) dL_law_8 (fun h0 => ?_)
    refine qw_dup hC rfl dL_law_11 ?_
    refine lw_callM (Y0 := lw_Y0 D cI kd q u) rfl rfl hf hC (hE D cI _) (Nat.le_of_ble_eq_true rfl) (Nat.le_of_ble_eq_true rfl) (Nat.le_of_ble_eq_true rfl) (fun Y y1 y2 y3 y4 y5 hinj hAi => ?_)
    have y0 : Y.2.2.1 0 = q := y4 0 (by decide)
    rw [← y0, ← y5]
    have hG : QC (p, l, e, room_1, s, m, #[Value.ref b], below, meth, c, lw_Z below #[Value.ref b] s, (fun q => s.heap.size ≤ q), 600000, 7302250) l Y cL_law RL 4 1000 := by
      refine ⟨⟨rfl, hx, hb, hlocks, hml, hown⟩, htsW, by rw [y1, y2]; exact hK, ?_, hinj, hAi, fun q h => h, Nat.le_of_ble_eq_true rfl, Nat.le_of_ble_eq_true rfl, Nat.le_of_ble_eq_true rfl, Nat.le_of_ble_eq_true rfl⟩
      have h := hE Y.1 Y.2.1 Y.2.2.1
      have e : (Y.1, Y.2.1, Y.2.2.1, kd) = Y := by
        rw [show kd = Y.2.2.2 from y3.symm]
      rw [e] at h
      exact h
    have hLw : QLw (p, l, e, room_1, s, m, #[Value.ref b], below, meth, c, lw_Z below #[Value.ref b] s, (fun q => s.heap.size ≤ q), 600000, 7302250) b L xs := ⟨hX, hbl, Nat.not_le.mpr hbl⟩
    refine qi_astore_n hG (lv' := [(2, .ref (Y.2.2.1 36)), (1, .ref (Y.2.2.1 0)), (0, .ref b)]) rfl (by decide) rfl dL_law_15 ?_
    refine qi_iconst hG (v := 0) dL_law_16 (by decide) ?_
    refine qi_istore_n hG (lv' := [(3, .int 0), (2, .ref (Y.2.2.1 36)), (1, .ref (Y.2.2.1 0)), (0, .ref b)]) rfl (by decide) rfl dL_law_17 ?_
    refine qi_sub hG [3, 2, 1, 0] rfl ?_
    refine lc_loop hG hLw hL hP (fun mm lv => ?_) (L + 1) 0 m1 hRel (Nat.zero_le _) (by omega)
    intro H locs ls hP2 hS2 hl2
    exact va_forget (fun q hq => hS2.2.2 q hq) (lw_ret hx hb hr hlocks dL_law_1531)
  exact hstep s.heap [] _ hP0 hD0 va_S.rf hl
