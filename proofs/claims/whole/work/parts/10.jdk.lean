/-! THE JDK's members on String constants: length, charAt -/
theorem kg_J0_38 : Cond.fieldLink RJ0 38 "java/lang/String" "COMPACT_STRINGS" "Z" ∈ qaWL := qa_at2 29 (by decide +kernel) rfl
theorem kg_J0_9 : Cond.fieldLink RJ0 9 "java/lang/String" "value" "[B" ∈ qaWL := qa_at6 78 (by decide +kernel) rfl
theorem kg_J0_15 : Cond.fieldLink RJ0 15 "java/lang/String" "coder" "B" ∈ qaWL := qa_at6 79 (by decide +kernel) rfl
theorem kg_J0_1053 : Cond.fieldLink RJ0 1053 "jdk/internal/util/Preconditions" "SIOOBE_FORMATTER" "Ljava/util/function/BiFunction;" ∈ qaWL := qa_at2 45 (by decide +kernel) rfl
def qaCT (own : String) (index : Nat) (y : MethodName) (n : Nat) : Prop := (Cond.methodLink own index y ∈ qaWL ∧ Cond.instanceMethod y ∈ qaWL ∧ Cond.selects y.cls y y ∈ qaWL ∧ Cond.initialized y.cls ∈ qaWL) ∧ (y.cls ≠ "java/lang/invoke/MethodHandle" ∧ y.cls ≠ "java/lang/invoke/VarHandle" ∧ (parseMethodDescriptor y.desc).map (fun d => d.parameters.length) = some n) ∧ y.cls = "java/lang/String"
theorem kl_J0_335 : qaCT RJ0 335 yJ0_coder_7d493 0 := ⟨⟨km_J0_335, ki_J0_coder_7d493, ks_J0_coder_7d493, kz_J0⟩, ⟨by decide +kernel, by decide +kernel, by decide +kernel⟩, rfl⟩
theorem kl_J0_492 : qaCT RJ0 492 yJ0_isLatin1_aae02 0 := ⟨⟨km_J0_492, ki_J0_isLatin1_aae02, ks_J0_isLatin1_aae02, kz_J0⟩, ⟨by decide +kernel, by decide +kernel, by decide +kernel⟩, rfl⟩
theorem kl_J0_495 : qaCS RJ0 495 yJ1_charAt_3b067 2 := ⟨⟨km_J0_495, kt_J1_charAt_3b067, kz_J1⟩, ⟨by decide +kernel, by decide +kernel, by decide +kernel⟩⟩
theorem kl_J1_9 : qaCS RJ1 9 yJ0_checkIndex_df160 2 := ⟨⟨km_J1_9, kt_J0_checkIndex_df160, kz_J0⟩, ⟨by decide +kernel, by decide +kernel, by decide +kernel⟩⟩
theorem kl_J0_1059 : qaCS RJ0 1059 yJ3_checkIndex_8e157 3 := ⟨⟨km_J0_1059, kt_J3_checkIndex_8e157, kz_J3⟩, ⟨by decide +kernel, by decide +kernel, by decide +kernel⟩⟩
section
variable {X : qaX} {l0 : Launch} {Y : qaY} {cc : ByteArray} {own : String} {nL D : Nat} {m : qaM} {pc : Nat} {lv : List (Nat × Value)} {st : List Value}
theorem qi_gsC (hC : QC X l0 Y cc own nL D) {index : Nat} (hlink : Cond.fieldLink own index "java/lang/String" "COMPACT_STRINGS" "Z" ∈ qaWL) (hd : decode cc pc = .ok (.getstatic index, 3)) (k : QG X Y nL m (pc + 3) lv (.int 1 :: st)) : QG X Y nL m pc lv st := by
  obtain ⟨p, l, e, R, s, mid, args, below, meth, c, Q, A, cells, slots⟩ := X
  obtain ⟨⟨hl0, hx, hb, hlk, hml, hown⟩, hts, hK, hE, hI, hAi, hAn, hD1, hD2, hD3, hD4⟩ := hC
  intro H locs ls hP hS hl
  exact va_gets hx hb hE.2.2.1 hS hown (hts _ hlink) (fun _ h => h) hd (k H locs ls hP hS hl)
theorem qi_gsF (hC : QC X l0 Y cc own nL D) {index : Nat} (hlink : Cond.fieldLink own index "jdk/internal/util/Preconditions" "SIOOBE_FORMATTER" "Ljava/util/function/BiFunction;" ∈ qaWL) (hd : decode cc pc = .ok (.getstatic index, 3)) (k : ∀ v : Value, (v = .null ∨ ∃ a : Nat, v = .ref a) → QG X Y nL m (pc + 3) lv (v :: st)) : QG X Y nL m pc lv st := by
  obtain ⟨p, l, e, R, s, mid, args, below, meth, c, Q, A, cells, slots⟩ := X
  obtain ⟨⟨hl0, hx, hb, hlk, hml, hown⟩, hts, hK, hE, hI, hAi, hAn, hD1, hD2, hD3, hD4⟩ := hC
  intro H locs ls hP hS hl
  rcases hE.2.2.2.1 with hz | ⟨t, hz⟩
  · exact va_gets hx hb hz hS hown (hts _ hlink) (fun _ h => h) hd (k .null (Or.inl rfl) H locs ls hP hS hl)
  · exact va_gets hx hb hz hS hown (hts _ hlink) (fun _ h => h) hd (k (.ref t) (Or.inr ⟨t, rfl⟩) H locs ls hP hS hl)
theorem qi_gfC (hC : QC X l0 Y cc own nL D) {index i : Nat} (hi : i < 12) (hlink : Cond.fieldLink own index "java/lang/String" "coder" "B" ∈ qaWL) (hd : decode cc pc = .ok (.getfield index, 3)) (k : QG X Y nL m (pc + 3) lv (.int 0 :: st)) : QG X Y nL m pc lv (.ref (Y.2.2.2 (1 + i)) :: st) := by
  obtain ⟨p, l, e, R, s, mid, args, below, meth, c, Q, A, cells, slots⟩ := X
  obtain ⟨⟨hl0, hx, hb, hlk, hml, hown⟩, hts, hK, hE, hI, hAi, hAn, hD1, hD2, hD3, hD4⟩ := hC
  intro H locs ls hP hS hl
  exact vk_getf hx hb (hE.2.2.2.2.1.1 i hi).2.1 hS hown (hts _ hlink) (fun _ h => h) hd (k H locs ls hP hS hl)
theorem qi_gfV (hC : QC X l0 Y cc own nL D) {index i : Nat} (hi : i < 12) (hlink : Cond.fieldLink own index "java/lang/String" "value" "[B" ∈ qaWL) (hd : decode cc pc = .ok (.getfield index, 3)) (k : QG X Y nL m (pc + 3) lv (.ref (Y.2.2.2 (13 + i)) :: st)) : QG X Y nL m pc lv (.ref (Y.2.2.2 (1 + i)) :: st) := by
  obtain ⟨p, l, e, R, s, mid, args, below, meth, c, Q, A, cells, slots⟩ := X
  obtain ⟨⟨hl0, hx, hb, hlk, hml, hown⟩, hts, hK, hE, hI, hAi, hAn, hD1, hD2, hD3, hD4⟩ := hC
  intro H locs ls hP hS hl
  exact vk_getf hx hb (hE.2.2.2.2.1.1 i hi).2.2.1 hS hown (hts _ hlink) (fun _ h => h) hd (k H locs ls hP hS hl)
theorem qi_tlen (hC : QC X l0 Y cc own nL D) {i : Nat} (hi : i < 12) (hd : decode cc pc = .ok (.arraylength, 1)) (k : QG X Y nL m (pc + 1) lv (.int (nI (qa_tl.getD i 0)) :: st)) : QG X Y nL m pc lv (.ref (Y.2.2.2 (13 + i)) :: st) := by
  obtain ⟨p, l, e, R, s, mid, args, below, meth, c, Q, A, cells, slots⟩ := X
  obtain ⟨⟨hl0, hx, hb, hlk, hml, hown⟩, hts, hK, hE, hI, hAi, hAn, hD1, hD2, hD3, hD4⟩ := hC
  intro H locs ls hP hS hl
  exact va_tlen hx hb (hE.2.2.2.2.1.1 i hi).2.2.2 hS rfl hd (k H locs ls hP hS hl)
theorem qi_tbld (hC : QC X l0 Y cc own nL D) {i : Nat} {x : Int32} (hi : i < 12) (hin : vp_in x (qa_tl.getD i 0)) (hd : decode cc pc = .ok (.baload, 1)) (k : QG X Y nL m (pc + 1) lv (.int ((qa_tb8.getD i []).getD x.toNatClampNeg 0) :: st)) : QG X Y nL m pc lv (.int x :: .ref (Y.2.2.2 (13 + i)) :: st) := by
  obtain ⟨p, l, e, R, s, mid, args, below, meth, c, Q, A, cells, slots⟩ := X
  obtain ⟨⟨hl0, hx, hb, hlk, hml, hown⟩, hts, hK, hE, hI, hAi, hAn, hD1, hD2, hD3, hD4⟩ := hC
  intro H locs ls hP hS hl
  exact va_tb hx hb (hE.2.2.2.2.1.1 i hi).2.2.2 hS hin rfl hd (k H locs ls hP hS hl)
theorem qi_i2c (hC : QC X l0 Y cc own nL D) {x : Int32} (hd : decode cc pc = .ok (.i2c, 1)) (k : QG X Y nL m (pc + 1) lv (.int (x.toUInt32 % 65536).toInt32 :: st)) : QG X Y nL m pc lv (.int x :: st) := by
  obtain ⟨p, l, e, R, s, mid, args, below, meth, c, Q, A, cells, slots⟩ := X
  obtain ⟨⟨hl0, hx, hb, hlk, hml, hown⟩, hts, hK, hE, hI, hAi, hAn, hD1, hD2, hD3, hD4⟩ := hC
  intro H locs ls hP hS hl
  exact lv_i2c hx hb hd rfl (k H locs ls hP hS hl)
theorem qi_callTi (hC : QC X l0 Y cc own nL D) {index n nL2 d i : Nat} {y : MethodName} {b : ByteArray} {ret : Option FieldType} {r : Int32} {as stk : List Value} {m2 : qaM} (hi : i < 12) (hM : qaMi l0 Y y b nL2 ret d (.ref (Y.2.2.2 (1 + i)) :: as) m m2 r) (hc : qaCT own index y n) (hcode : Cond.code y b nL2 ret ∈ qaWL) (hn : as.length = n) (hst : as.reverse ++ .ref (Y.2.2.2 (1 + i)) :: st = stk) (hd1 : d + 1 ≤ D) (hd2 : nL2 ≤ 40) (hrest : (st.map fun v => v.category).sum ≤ 8) (hd : decode cc pc = .ok (.invokevirtual index, 3)) (k : QG X Y nL m2 (pc + 3) lv (.int r :: st)) : QG X Y nL m pc lv stk := by
  obtain ⟨p, l, e, R, s, mid, args, below, meth, c, Q, A, cells, slots⟩ := X
  obtain ⟨⟨hl0, hx, hb, hlk, hml, hown⟩, hts, hK, hE, hI, hAi, hAn, hD1, hD2, hD3, hD4⟩ := hC
  intro H locs ls hP hS hl
  subst hl0
  subst hst
  obtain ⟨⟨w1, w2, w3, w4⟩, hy, hcls⟩ := hc
  have hG : GoodIn qaWL (wsV own index y.cls y (.code y b nL2 ret :: qaWL)) := by
    intro w hw
    unfold wsV at hw
    rcases List.mem_append.mp hw with hw | hw
    · simp only [List.mem_cons, List.not_mem_nil, or_false] at hw
      rcases hw with rfl | rfl | rfl | rfl
      · exact ⟨w1, qa_good w1⟩
      · exact ⟨w2, qa_good w2⟩
      · exact ⟨w3, qa_good w3⟩
      · exact ⟨w4, qa_good w4⟩
    · exact qa_gi hcode w hw
  have hAA : ∀ q : Nat, qa_A Y H.size q → A q := by
    rintro q (⟨i, hi, rfl⟩ | hq)
    · exact hAi i hi
    · exact hAn q (Nat.le_trans hS.1 hq)
  have hEU : ∀ U : State, s.WarmedH U.vm → qa_E Y (qa_A Y H.size) U H := fun U hW => ((hE.kept hS.2.1).narrow hAA).warm hW
  have hrc : ∃ cell : Cell, H[Y.2.2.2 (1 + i)]? = some cell ∧ cell.vm.isStatics = false ∧ s.vm.findClass y.cls = some cell.cls := by
    rw [hcls]
    exact vk_recv (i := i) (adK := fun i => Y.2.2.2 (1 + i)) hE.2.2.2.2.1 hi hS
  refine va_calli (va_runV (As := as) (rest := st) ⟨hx, hb, hml, hown, hts⟩ (hM H.size) (cwV n hts hG rfl rfl rfl ⟨rfl, hy⟩ ⟨by show d + 1 ≤ _; omega, by show 8 + (nL2 + 11) + 60 * d ≤ _; omega⟩) ⟨fun a U g mk q => ⟨q.1, q.2.blind⟩, hrc, fun U hU hW => ⟨rfl, by rw [hU], by rw [hU]; exact hP, va_K.moved hW.alike hK, by rw [hU]; exact hEU U hW, hI⟩⟩ rfl hn hl.1 rfl (lv_room hrest) hd ⟨by omega, by omega⟩) hS (fun q _ h => hAA q h) hAA (fun r1 u t H1 locs1 ht hvm hw hB hz1 hk1 hS1 => ?_)
  subst hw
  exact k H1 locs1 ls (by rw [← ht]; exact hB) hS1 hl
end
theorem c_J0_coder (l : Launch) (Y : qaY) {i : Nat} (hi : i < 12) (m : qaM) : qaMi l Y yJ0_coder_7d493 cJ0_coder_7d493 1 (some .byte) 1 [.ref (Y.2.2.2 (1 + i))] m m 0 := by
  refine qa_enti (by decide +kernel) (Nat.le_of_ble_eq_true rfl) fun X hC hQ => ?_
  refine qi_gsC hC kg_J0_38 dJ0_coder_7d493_0 ?_
  refine qi_if_eq (tgt := 13) hC (by decide) dJ0_coder_7d493_3 (fun h => absurd h (by decide)) (fun h => ?_)
  refine qi_aload_n hC 0 rfl rfl dJ0_coder_7d493_6 ?_
  refine qi_gfC hC hi kg_J0_15 dJ0_coder_7d493_7 ?_
  refine qi_goto (tgt := 14) hC (by decide) dJ0_coder_7d493_10 ?_
  exact qi_iretz hC hQ rfl rfl dJ0_coder_7d493_14
theorem c_J0_isLatin1 (l : Launch) (Y : qaY) {i : Nat} (hi : i < 12) (m : qaM) : qaMi l Y yJ0_isLatin1_aae02 cJ0_isLatin1_aae02 1 (some .boolean) 1 [.ref (Y.2.2.2 (1 + i))] m m 1 := by
  refine qa_enti (by decide +kernel) (Nat.le_of_ble_eq_true rfl) fun X hC hQ => ?_
  refine qi_gsC hC kg_J0_38 dJ0_isLatin1_aae02_0 ?_
  refine qi_if_eq (tgt := 17) hC (by decide) dJ0_isLatin1_aae02_3 (fun h => absurd h (by decide)) (fun h => ?_)
  refine qi_aload_n hC 0 rfl rfl dJ0_isLatin1_aae02_6 ?_
  refine qi_gfC hC hi kg_J0_15 dJ0_isLatin1_aae02_7 ?_
  refine qi_if_ne (tgt := 17) hC (by decide) dJ0_isLatin1_aae02_10 (fun h => absurd rfl h) (fun h => ?_)
  refine qi_iconst hC (v := 1) dJ0_isLatin1_aae02_13 (by decide) ?_
  refine qi_goto (tgt := 18) hC (by decide) dJ0_isLatin1_aae02_14 ?_
  exact qi_iretz hC hQ rfl rfl dJ0_isLatin1_aae02_18
theorem c_J0_length (l : Launch) (Y : qaY) {i : Nat} (hi : i < 12) (m : qaM) : qaMi l Y yJ0_length_8abf5 cJ0_length_8abf5 1 (some .int) 2 [.ref (Y.2.2.2 (1 + i))] m m (nI (qa_tl.getD i 0)) := by
  refine qa_enti (by decide +kernel) (Nat.le_of_ble_eq_true rfl) fun X hC hQ => ?_
  refine qi_aload_n hC 0 rfl rfl dJ0_length_8abf5_0 ?_
  refine qi_gfV hC hi kg_J0_9 dJ0_length_8abf5_1 ?_
  refine qi_tlen hC hi dJ0_length_8abf5_4 ?_
  refine qi_aload_n hC 0 rfl rfl dJ0_length_8abf5_5 ?_
  refine qi_callTi hC (as := []) hi (c_J0_coder _ _ hi _) kl_J0_335 kc_J0_coder_7d493 rfl rfl (by decide) (by decide) (Nat.le_of_ble_eq_true rfl) dJ0_length_8abf5_6 ?_
  refine qi_ishr hC dJ0_length_8abf5_9 ?_
  have e : nI (qa_tl.getD i 0) >>> ((0 : Int32) &&& 31) = nI (qa_tl.getD i 0) := by
    have hall : ∀ j : Nat, j < 12 → nI (qa_tl.getD j 0) >>> ((0 : Int32) &&& 31) = nI (qa_tl.getD j 0) := by decide
    exact hall i hi
  exact qi_ireti hC hQ (by rw [e]) dJ0_length_8abf5_10
theorem c_J3_checkIndex (l : Launch) (Y : qaY) {x y : Int32} {v : Value} (hv : v = .null ∨ ∃ a : Nat, v = .ref a) (h0 : ¬ x < 0) (h1 : x < y) (m : qaM) : qaMi l Y yJ3_checkIndex_8e157 cJ3_checkIndex_8e157 3 (some .int) 1 [.int x, .int y, v] m m x := by
  refine qa_enti (by decide +kernel) (by rcases hv with rfl | ⟨a, rfl⟩ <;> exact Nat.le_of_ble_eq_true rfl) fun X hC hQ => ?_
  refine qi_iload_n hC 0 rfl rfl dJ3_checkIndex_8e157_0 ?_
  refine qi_if_lt (tgt := 9) hC (by decide) dJ3_checkIndex_8e157_1 (fun h => absurd h h0) (fun h => ?_)
  refine qi_iload_n hC 0 rfl rfl dJ3_checkIndex_8e157_4 ?_
  refine qi_iload_n hC 1 rfl rfl dJ3_checkIndex_8e157_5 ?_
  refine qi_icmp_lt (tgt := 16) hC (by decide) dJ3_checkIndex_8e157_6 (fun h => ?_) (fun h => absurd h1 h)
  refine qi_iload_n hC 0 rfl rfl dJ3_checkIndex_8e157_16 ?_
  exact qi_ireti hC hQ rfl dJ3_checkIndex_8e157_17
theorem c_J0_checkIndex (l : Launch) (Y : qaY) {x y : Int32} (h0 : ¬ x < 0) (h1 : x < y) (m : qaM) : qaMv l Y yJ0_checkIndex_df160 cJ0_checkIndex_df160 2 2 [.int x, .int y] m m := by
  refine qa_entv (by decide +kernel) (Nat.le_of_ble_eq_true rfl) fun X hC hQ => ?_
  refine qi_iload_n hC 0 rfl rfl dJ0_checkIndex_df160_0 ?_
  refine qi_iload_n hC 1 rfl rfl dJ0_checkIndex_df160_1 ?_
  refine qi_gsF hC kg_J0_1053 dJ0_checkIndex_df160_2 (fun v hv => ?_)
  refine qi_callSi hC (as := [.int x, .int y, v]) (c_J3_checkIndex _ _ hv h0 h1 _) kl_J0_1059 kc_J3_checkIndex_8e157 rfl rfl (by decide) (by decide) (Nat.le_of_ble_eq_true rfl) dJ0_checkIndex_df160_5 ?_
  refine qi_pop hC rfl dJ0_checkIndex_df160_8 ?_
  exact qi_vret hC hQ rfl dJ0_checkIndex_df160_9
theorem c_J1_charAt (l : Launch) (Y : qaY) {i : Nat} {x : Int32} (hi : i < 12) (hx : vp_in x (qa_tl.getD i 0)) (m : qaM) : qaMi l Y yJ1_charAt_3b067 cJ1_charAt_3b067 2 (some .char) 3 [.ref (Y.2.2.2 (13 + i)), .int x] m m (qa_ch i x.toNatClampNeg) := by
  have hb : qa_tl.getD i 0 < 2 ^ 31 := by
    have hall : ∀ j : Nat, j < 12 → qa_tl.getD j 0 < 2 ^ 31 := by decide
    exact hall i hi
  obtain ⟨j, hj, ej⟩ := vp_in_of hx hb
  refine qa_enti (by decide +kernel) (Nat.le_of_ble_eq_true rfl) fun X hC hQ => ?_
  refine qi_iload_n hC 1 rfl rfl dJ1_charAt_3b067_0 ?_
  refine qi_aload_n hC 0 rfl rfl dJ1_charAt_3b067_1 ?_
  refine qi_tlen hC hi dJ1_charAt_3b067_2 ?_
  refine qi_callSv hC (as := [.int x, .int (nI (qa_tl.getD i 0))]) (c_J0_checkIndex _ _ (by rw [ej]; exact nI_pos (by omega)) (by rw [ej]; exact nI_lt hj hb) _) kl_J1_9 kc_J0_checkIndex_df160 rfl rfl (by decide) (by decide) (Nat.le_of_ble_eq_true rfl) dJ1_charAt_3b067_3 ?_
  refine qi_aload_n hC 0 rfl rfl dJ1_charAt_3b067_6 ?_
  refine qi_iload_n hC 1 rfl rfl dJ1_charAt_3b067_7 ?_
  refine qi_tbld hC hi hx dJ1_charAt_3b067_8 ?_
  refine qi_sipush hC (v := 255) dJ1_charAt_3b067_9 (by decide) ?_
  refine qi_iand hC dJ1_charAt_3b067_12 ?_
  refine qi_i2c hC dJ1_charAt_3b067_13 ?_
  exact qi_iretz hC hQ rfl (pk_nc _) dJ1_charAt_3b067_14
theorem c_J0_charAt (l : Launch) (Y : qaY) {i : Nat} {x : Int32} (hi : i < 12) (hx : vp_in x (qa_tl.getD i 0)) (m : qaM) : qaMi l Y yJ0_charAt_5068e cJ0_charAt_5068e 2 (some .char) 4 [.ref (Y.2.2.2 (1 + i)), .int x] m m (qa_ch i x.toNatClampNeg) := by
  refine qa_enti (by decide +kernel) (Nat.le_of_ble_eq_true rfl) fun X hC hQ => ?_
  refine qi_aload_n hC 0 rfl rfl dJ0_charAt_5068e_0 ?_
  refine qi_callTi hC (as := []) hi (c_J0_isLatin1 _ _ hi _) kl_J0_492 kc_J0_isLatin1_aae02 rfl rfl (by decide) (by decide) (Nat.le_of_ble_eq_true rfl) dJ0_charAt_5068e_1 ?_
  refine qi_if_eq (tgt := 16) hC (by decide) dJ0_charAt_5068e_4 (fun h => absurd h (by decide)) (fun h => ?_)
  refine qi_aload_n hC 0 rfl rfl dJ0_charAt_5068e_7 ?_
  refine qi_gfV hC hi kg_J0_9 dJ0_charAt_5068e_8 ?_
  refine qi_iload_n hC 1 rfl rfl dJ0_charAt_5068e_11 ?_
  refine qi_callSi hC (as := [.ref (Y.2.2.2 (13 + i)), .int x]) (c_J1_charAt _ _ hi hx _) kl_J0_495 kc_J1_charAt_3b067 rfl rfl (by decide) (by decide) (Nat.le_of_ble_eq_true rfl) dJ0_charAt_5068e_12 ?_
  exact qi_iretz hC hQ rfl (pk_nc _) dJ0_charAt_5068e_15
section
variable {X : qaX} {l0 : Launch} {Y : qaY} {cc : ByteArray} {own : String} {nL D : Nat} {m : qaM} {pc : Nat} {lv : List (Nat × Value)} {st : List Value}
theorem qi_callSi_len (hC : QC X l0 Y cc own nL D) {i index : Nat} (hi : i < 12) (hlink : Cond.methodLink own index yJ0_length_8abf5 ∈ qaWL) (hD : 5 ≤ D) (hrest : (st.map fun v => v.category).sum ≤ 8) (hd : decode cc pc = .ok (.invokevirtual index, 3)) (k : QG X Y nL m (pc + 3) lv (.int (nI (qa_tl.getD i 0)) :: st)) : QG X Y nL m pc lv (.ref (Y.2.2.2 (1 + i)) :: st) :=
  qi_callTi hC (n := 0) (as := []) hi (c_J0_length _ _ hi _) ⟨⟨hlink, ki_J0_length_8abf5, ks_J0_length_8abf5, kz_J0⟩, ⟨by decide +kernel, by decide +kernel, by decide +kernel⟩, rfl⟩ kc_J0_length_8abf5 rfl rfl (by omega) (by decide) hrest hd k
theorem qi_callSi_chr (hC : QC X l0 Y cc own nL D) {i index : Nat} {x : Int32} (hi : i < 12) (hx : vp_in x (qa_tl.getD i 0)) (hlink : Cond.methodLink own index yJ0_charAt_5068e ∈ qaWL) (hD : 5 ≤ D) (hrest : (st.map fun v => v.category).sum ≤ 8) (hd : decode cc pc = .ok (.invokevirtual index, 3)) (k : QG X Y nL m (pc + 3) lv (.int (qa_ch i x.toNatClampNeg) :: st)) : QG X Y nL m pc lv (.int x :: .ref (Y.2.2.2 (1 + i)) :: st) :=
  qi_callTi hC (n := 1) (as := [.int x]) hi (c_J0_charAt _ _ hi hx _) ⟨⟨hlink, ki_J0_charAt_5068e, ks_J0_charAt_5068e, kz_J0⟩, ⟨by decide +kernel, by decide +kernel, by decide +kernel⟩, rfl⟩ kc_J0_charAt_5068e rfl rfl (by omega) (by decide) hrest hd k
end
