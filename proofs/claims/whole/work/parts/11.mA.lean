/-! THE MACHINE DOES WHAT THE FUNCTIONS SAY, laid by program -/
set_option maxRecDepth 100000 in
set_option maxHeartbeats 4000000 in
theorem c_X6_isByte (l : Launch) (Y : qaY) (m : qaM) (v0 : Int32) (q : Int32) (hf : f_X6_isByte m v0 = some q) : qaMi l Y yX6_isByte cX6_isByte 1 (some .boolean) 1 [.int v0] m m q := by
  refine qa_enti (by decide +kernel) (Nat.le_of_ble_eq_true rfl) fun X hC hQ => ?_
  have hK : qa_eq q q := rfl
  unfold f_X6_isByte at hf
  refine qi_iload_n hC 0 rfl rfl dX6_isByte_0 ?_
  refine qi_if_lt (tgt := 15) hC (by decide) dX6_isByte_1 (fun h => ?_) (fun h => ?_)
  · replace hf := qa_if_t h hf
    refine qi_iconst hC dX6_isByte_15 kn_iconst_0 ?_
    obtain rfl := Option.some.inj hf
    exact qi_iretz hC hQ (congrArg (fun w => (w, m)) hK) rfl dX6_isByte_16
  · replace hf := qa_if_f h hf
    refine qi_iload_n hC 0 rfl rfl dX6_isByte_4 ?_
    refine qi_sipush hC dX6_isByte_5 kn_sipush_255 ?_
    refine qi_icmp_gt (tgt := 15) hC (by decide) dX6_isByte_8 (fun h => ?_) (fun h => ?_)
    · replace hf := qa_if_t h hf
      refine qi_iconst hC dX6_isByte_15 kn_iconst_0 ?_
      obtain rfl := Option.some.inj hf
      exact qi_iretz hC hQ (congrArg (fun w => (w, m)) hK) rfl dX6_isByte_16
    · replace hf := qa_if_f h hf
      refine qi_iconst hC dX6_isByte_11 kn_iconst_1 ?_
      refine qi_goto (tgt := 16) hC (by decide) dX6_isByte_12 ?_
      obtain rfl := Option.some.inj hf
      exact qi_iretz hC hQ (congrArg (fun w => (w, m)) hK) rfl dX6_isByte_16
set_option maxRecDepth 100000 in
set_option maxHeartbeats 4000000 in
theorem c_X5_adds (l : Launch) (Y : qaY) (m : qaM) (v1 : Int32) (q : qaM) (hf : f_X5_adds m v1 = some q) : qaMv l Y yX5_adds cX5_adds 2 1 [.ref (Y.2.2.1 1), .int v1] m q := by
  refine qa_entv (by decide +kernel) (Nat.le_of_ble_eq_true rfl) fun X hC hQ => ?_
  have hK : qa_eq q q := rfl
  unfold f_X5_adds at hf
  refine qi_aload_n hC 0 rfl rfl dX5_adds_0 ?_
  refine qi_geti hC kf_X5_9 sh_1 rfl dX5_adds_1 ?_
  refine qi_if_lt (tgt := 62) hC (by decide) dX5_adds_4 (fun h => ?_) (fun h => ?_)
  · replace hf := qa_if_t h hf
    obtain rfl := Option.some.inj hf
    exact qi_vret hC hQ hK dX5_adds_62
  · replace hf := qa_if_f h hf
    refine qi_aload_n hC 0 rfl rfl dX5_adds_7 ?_
    refine qi_geti hC kf_X5_9 sh_1 rfl dX5_adds_8 ?_
    refine qi_bipush hC dX5_adds_11 kn_bipush_6 ?_
    refine qi_icmp_ge (tgt := 62) hC (by decide) dX5_adds_13 (fun h => ?_) (fun h => ?_)
    · replace hf := qa_if_t h hf
      obtain rfl := Option.some.inj hf
      exact qi_vret hC hQ hK dX5_adds_62
    · replace hf := qa_if_f h hf
      refine qi_aload_n hC 0 rfl rfl dX5_adds_16 ?_
      refine qi_geti hC kf_X5_28 sh_1 rfl dX5_adds_17 ?_
      refine qi_if_lt (tgt := 62) hC (by decide) dX5_adds_20 (fun h => ?_) (fun h => ?_)
      · replace hf := qa_if_t h hf
        obtain rfl := Option.some.inj hf
        exact qi_vret hC hQ hK dX5_adds_62
      · replace hf := qa_if_f h hf
        refine qi_aload_n hC 0 rfl rfl dX5_adds_23 ?_
        refine qi_geti hC kf_X5_28 sh_1 rfl dX5_adds_24 ?_
        refine qi_sipush hC dX5_adds_27 kn_sipush_160 ?_
        refine qi_icmp_ge (tgt := 62) hC (by decide) dX5_adds_30 (fun h => ?_) (fun h => ?_)
        · replace hf := qa_if_t h hf
          obtain rfl := Option.some.inj hf
          exact qi_vret hC hQ hK dX5_adds_62
        · replace hf := qa_if_f h hf
          refine qi_aload_n hC 0 rfl rfl dX5_adds_33 ?_
          refine qi_getr hC kf_X5_15 sh_1 rfl dX5_adds_34 ?_
          refine qi_aload_n hC 0 rfl rfl dX5_adds_37 ?_
          refine qi_geti hC kf_X5_9 sh_1 rfl dX5_adds_38 ?_
          refine qi_sipush hC dX5_adds_41 kn_sipush_160 ?_
          refine qi_imul hC dX5_adds_44 ?_
          refine qi_aload_n hC 0 rfl rfl dX5_adds_45 ?_
          refine qi_geti hC kf_X5_28 sh_1 rfl dX5_adds_46 ?_
          refine qi_iadd hC dX5_adds_49 ?_
          refine qi_iload_n hC 1 rfl rfl dX5_adds_50 ?_
          obtain ⟨h1, hf⟩ := qa_ck_e hf
          obtain ⟨m2, em2, hf⟩ := qa_lt_e hf
          refine qi_iast hC rfl em2 sh_2 (qa_in_v h1) dX5_adds_51 ?_
          refine qi_aload_n hC 0 rfl rfl dX5_adds_52 ?_
          refine qi_dup hC rfl dX5_adds_53 ?_
          refine qi_geti hC kf_X5_28 sh_1 rfl dX5_adds_54 ?_
          refine qi_iconst hC dX5_adds_57 kn_iconst_1 ?_
          refine qi_iadd hC dX5_adds_58 ?_
          obtain ⟨m3, em3, hf⟩ := qa_lt_e hf
          refine qi_puti hC em3 kp_X5_28 sh_1 rfl rfl rfl dX5_adds_59 ?_
          obtain rfl := Option.some.inj hf
          exact qi_vret hC hQ hK dX5_adds_62
set_option maxRecDepth 100000 in
set_option maxHeartbeats 4000000 in
theorem c_X5_endsPart (l : Launch) (Y : qaY) (m : qaM) (v1 : Int32) (q : qaM) (hf : f_X5_endsPart m v1 = some q) : qaMv l Y yX5_endsPart cX5_endsPart 2 1 [.ref (Y.2.2.1 1), .int v1] m q := by
  refine qa_entv (by decide +kernel) (Nat.le_of_ble_eq_true rfl) fun X hC hQ => ?_
  have hK : qa_eq q q := rfl
  unfold f_X5_endsPart at hf
  refine qi_aload_n hC 0 rfl rfl dX5_endsPart_0 ?_
  refine qi_geti hC kf_X5_9 sh_1 rfl dX5_endsPart_1 ?_
  refine qi_if_lt (tgt := 42) hC (by decide) dX5_endsPart_4 (fun h => ?_) (fun h => ?_)
  · replace hf := qa_if_t h hf
    obtain rfl := Option.some.inj hf
    exact qi_vret hC hQ hK dX5_endsPart_42
  · replace hf := qa_if_f h hf
    refine qi_aload_n hC 0 rfl rfl dX5_endsPart_7 ?_
    refine qi_geti hC kf_X5_9 sh_1 rfl dX5_endsPart_8 ?_
    refine qi_bipush hC dX5_endsPart_11 kn_bipush_6 ?_
    refine qi_icmp_ge (tgt := 42) hC (by decide) dX5_endsPart_13 (fun h => ?_) (fun h => ?_)
    · replace hf := qa_if_t h hf
      obtain rfl := Option.some.inj hf
      exact qi_vret hC hQ hK dX5_endsPart_42
    · replace hf := qa_if_f h hf
      refine qi_iload_n hC 1 rfl rfl dX5_endsPart_16 ?_
      refine qi_if_lt (tgt := 42) hC (by decide) dX5_endsPart_17 (fun h => ?_) (fun h => ?_)
      · replace hf := qa_if_t h hf
        obtain rfl := Option.some.inj hf
        exact qi_vret hC hQ hK dX5_endsPart_42
      · replace hf := qa_if_f h hf
        refine qi_iload_n hC 1 rfl rfl dX5_endsPart_20 ?_
        refine qi_iconst hC dX5_endsPart_21 kn_iconst_3 ?_
        refine qi_icmp_ge (tgt := 42) hC (by decide) dX5_endsPart_22 (fun h => ?_) (fun h => ?_)
        · replace hf := qa_if_t h hf
          obtain rfl := Option.some.inj hf
          exact qi_vret hC hQ hK dX5_endsPart_42
        · replace hf := qa_if_f h hf
          refine qi_aload_n hC 0 rfl rfl dX5_endsPart_25 ?_
          refine qi_getr hC kf_X5_19 sh_1 rfl dX5_endsPart_26 ?_
          refine qi_aload_n hC 0 rfl rfl dX5_endsPart_29 ?_
          refine qi_geti hC kf_X5_9 sh_1 rfl dX5_endsPart_30 ?_
          refine qi_iconst hC dX5_endsPart_33 kn_iconst_3 ?_
          refine qi_imul hC dX5_endsPart_34 ?_
          refine qi_iload_n hC 1 rfl rfl dX5_endsPart_35 ?_
          refine qi_iadd hC dX5_endsPart_36 ?_
          refine qi_aload_n hC 0 rfl rfl dX5_endsPart_37 ?_
          refine qi_geti hC kf_X5_28 sh_1 rfl dX5_endsPart_38 ?_
          obtain ⟨h1, hf⟩ := qa_ck_e hf
          obtain ⟨m2, em2, hf⟩ := qa_lt_e hf
          refine qi_iast hC rfl em2 sh_3 (qa_in_v h1) dX5_endsPart_41 ?_
          obtain rfl := Option.some.inj hf
          exact qi_vret hC hQ hK dX5_endsPart_42
set_option maxRecDepth 100000 in
set_option maxHeartbeats 4000000 in
theorem c_X5_beginsText (l : Launch) (Y : qaY) (m : qaM) (q : qaM) (hf : f_X5_beginsText m = some q) : qaMv l Y yX5_beginsText cX5_beginsText 1 1 [.ref (Y.2.2.1 1)] m q := by
  refine qa_entv (by decide +kernel) (Nat.le_of_ble_eq_true rfl) fun X hC hQ => ?_
  have hK : qa_eq q q := rfl
  unfold f_X5_beginsText at hf
  refine qi_aload_n hC 0 rfl rfl dX5_beginsText_0 ?_
  refine qi_iconst hC dX5_beginsText_1 kn_iconst_0 ?_
  obtain ⟨m1, em1, hf⟩ := qa_lt_e hf
  refine qi_puti hC em1 kp_X5_28 sh_1 rfl rfl rfl dX5_beginsText_2 ?_
  obtain rfl := Option.some.inj hf
  exact qi_vret hC hQ hK dX5_beginsText_5
set_option maxRecDepth 100000 in
set_option maxHeartbeats 4000000 in
theorem c_X5_keepsText (l : Launch) (Y : qaY) (m : qaM) (q : Int32 × qaM) (hf : f_X5_keepsText m = some q) : qaMi l Y yX5_keepsText cX5_keepsText 1 (some .int) 1 [.ref (Y.2.2.1 1)] m q.2 q.1 := by
  refine qa_enti (by decide +kernel) (Nat.le_of_ble_eq_true rfl) fun X hC hQ => ?_
  have hK : qa_eq q q := rfl
  unfold f_X5_keepsText at hf
  refine qi_aload_n hC 0 rfl rfl dX5_keepsText_0 ?_
  refine qi_dup hC rfl dX5_keepsText_1 ?_
  refine qi_geti hC kf_X5_9 sh_1 rfl dX5_keepsText_2 ?_
  refine qi_iconst hC dX5_keepsText_5 kn_iconst_1 ?_
  refine qi_iadd hC dX5_keepsText_6 ?_
  obtain ⟨m1, em1, hf⟩ := qa_lt_e hf
  refine qi_puti hC em1 kp_X5_9 sh_1 rfl rfl rfl dX5_keepsText_7 ?_
  refine qi_aload_n hC 0 rfl rfl dX5_keepsText_10 ?_
  refine qi_geti hC kf_X5_9 sh_1 rfl dX5_keepsText_11 ?_
  refine qi_iconst hC dX5_keepsText_14 kn_iconst_1 ?_
  refine qi_isub hC dX5_keepsText_15 ?_
  obtain rfl := Option.some.inj hf
  exact qi_ireti hC hQ hK dX5_keepsText_16
set_option maxRecDepth 100000 in
set_option maxHeartbeats 4000000 in
theorem t_X5_joins_116 {X : qaX} {l : Launch} {Y : qaY} {fin : Int32} {m : qaM} (hC : QC X l Y cX5_joins RX5 3 1) (hQ : QRi X Y (some .int) m fin) {z : (Int32)} (hf : b_X5_joins_116 m = some z) (hK : (qa_eq fin) z) : QG X Y 3 m 116 [] [] := by
  unfold b_X5_joins_116 at hf
  refine qi_iconst hC dX5_joins_116 kn_iconst_1 ?_
  refine qi_goto (tgt := 121) hC (by decide) dX5_joins_117 ?_
  obtain rfl := Option.some.inj hf
  exact qi_ireti hC hQ (congrArg (fun w => (w, m)) hK) dX5_joins_121
set_option maxRecDepth 100000 in
set_option maxHeartbeats 4000000 in
theorem c_X5_joins (l : Launch) (Y : qaY) (m : qaM) (v0 : Int32) (v1 : Int32) (v2 : Int32) (q : Int32) (hf : f_X5_joins m v0 v1 v2 = some q) : qaMi l Y yX5_joins cX5_joins 3 (some .int) 1 [.int v0, .int v1, .int v2] m m q := by
  refine qa_enti (by decide +kernel) (Nat.le_of_ble_eq_true rfl) fun X hC hQ => ?_
  have hK : qa_eq q q := rfl
  unfold f_X5_joins at hf
  refine qi_iload_n hC 0 rfl rfl dX5_joins_0 ?_
  by_cases h1 : v0 = (42 : Int32)
  · replace hf := qa_if_t h1 hf
    refine qi_lookup (tgt := 68) (off := 67) hC dX5_joins_1 (by decide) (by rw [h1] <;> decide) (by decide) ?_
    refine qi_iload_n hC 1 rfl rfl dX5_joins_68 ?_
    refine qi_iload_n hC 2 rfl rfl dX5_joins_69 ?_
    refine qi_imul hC dX5_joins_70 ?_
    obtain rfl := Option.some.inj hf
    exact qi_ireti hC hQ (congrArg (fun w => (w, m)) hK) dX5_joins_71
  replace hf := qa_if_f h1 hf
  by_cases h2 : v0 = (43 : Int32)
  · replace hf := qa_if_t h2 hf
    refine qi_lookup (tgt := 60) (off := 59) hC dX5_joins_1 (by decide) (by rw [h2] <;> decide) (by decide) ?_
    refine qi_iload_n hC 1 rfl rfl dX5_joins_60 ?_
    refine qi_iload_n hC 2 rfl rfl dX5_joins_61 ?_
    refine qi_iadd hC dX5_joins_62 ?_
    obtain rfl := Option.some.inj hf
    exact qi_ireti hC hQ (congrArg (fun w => (w, m)) hK) dX5_joins_63
  replace hf := qa_if_f h2 hf
  by_cases h3 : v0 = (45 : Int32)
  · replace hf := qa_if_t h3 hf
    refine qi_lookup (tgt := 64) (off := 63) hC dX5_joins_1 (by decide) (by rw [h3] <;> decide) (by decide) ?_
    refine qi_iload_n hC 1 rfl rfl dX5_joins_64 ?_
    refine qi_iload_n hC 2 rfl rfl dX5_joins_65 ?_
    refine qi_isub hC dX5_joins_66 ?_
    obtain rfl := Option.some.inj hf
    exact qi_ireti hC hQ (congrArg (fun w => (w, m)) hK) dX5_joins_67
  replace hf := qa_if_f h3 hf
  by_cases h4 : v0 = (60 : Int32)
  · replace hf := qa_if_t h4 hf
    refine qi_lookup (tgt := 72) (off := 71) hC dX5_joins_1 (by decide) (by rw [h4] <;> decide) (by decide) ?_
    refine qi_iload_n hC 1 rfl rfl dX5_joins_72 ?_
    refine qi_iload_n hC 2 rfl rfl dX5_joins_73 ?_
    refine qi_icmp_ge (tgt := 81) hC (by decide) dX5_joins_74 (fun h => ?_) (fun h => ?_)
    · replace hf := qa_if_t h hf
      refine qi_iconst hC dX5_joins_81 kn_iconst_0 ?_
      obtain rfl := Option.some.inj hf
      exact qi_ireti hC hQ (congrArg (fun w => (w, m)) hK) dX5_joins_82
    · replace hf := qa_if_f h hf
      refine qi_iconst hC dX5_joins_77 kn_iconst_1 ?_
      refine qi_goto (tgt := 82) hC (by decide) dX5_joins_78 ?_
      obtain rfl := Option.some.inj hf
      exact qi_ireti hC hQ (congrArg (fun w => (w, m)) hK) dX5_joins_82
  replace hf := qa_if_f h4 hf
  by_cases h5 : v0 = (61 : Int32)
  · replace hf := qa_if_t h5 hf
    refine qi_lookup (tgt := 83) (off := 82) hC dX5_joins_1 (by decide) (by rw [h5] <;> decide) (by decide) ?_
    refine qi_iload_n hC 1 rfl rfl dX5_joins_83 ?_
    refine qi_iload_n hC 2 rfl rfl dX5_joins_84 ?_
    refine qi_icmp_ne (tgt := 92) hC (by decide) dX5_joins_85 (fun h => ?_) (fun h => ?_)
    · replace hf := qa_if_f h hf
      refine qi_iconst hC dX5_joins_92 kn_iconst_0 ?_
      obtain rfl := Option.some.inj hf
      exact qi_ireti hC hQ (congrArg (fun w => (w, m)) hK) dX5_joins_93
    · replace hf := qa_if_t h hf
      refine qi_iconst hC dX5_joins_88 kn_iconst_1 ?_
      refine qi_goto (tgt := 93) hC (by decide) dX5_joins_89 ?_
      obtain rfl := Option.some.inj hf
      exact qi_ireti hC hQ (congrArg (fun w => (w, m)) hK) dX5_joins_93
  replace hf := qa_if_f h5 hf
  by_cases h6 : v0 = (304 : Int32)
  · replace hf := qa_if_t h6 hf
    refine qi_lookup (tgt := 94) (off := 93) hC dX5_joins_1 (by decide) (by rw [h6] <;> decide) (by decide) ?_
    refine qi_iload_n hC 1 rfl rfl dX5_joins_94 ?_
    refine qi_if_eq (tgt := 106) hC (by decide) dX5_joins_95 (fun h => ?_) (fun h => ?_)
    · replace hf := qa_if_t h hf
      refine qi_iconst hC dX5_joins_106 kn_iconst_0 ?_
      obtain rfl := Option.some.inj hf
      exact qi_ireti hC hQ (congrArg (fun w => (w, m)) hK) dX5_joins_107
    · replace hf := qa_if_f h hf
      refine qi_iload_n hC 2 rfl rfl dX5_joins_98 ?_
      refine qi_if_eq (tgt := 106) hC (by decide) dX5_joins_99 (fun h => ?_) (fun h => ?_)
      · replace hf := qa_if_t h hf
        refine qi_iconst hC dX5_joins_106 kn_iconst_0 ?_
        obtain rfl := Option.some.inj hf
        exact qi_ireti hC hQ (congrArg (fun w => (w, m)) hK) dX5_joins_107
      · replace hf := qa_if_f h hf
        refine qi_iconst hC dX5_joins_102 kn_iconst_1 ?_
        refine qi_goto (tgt := 107) hC (by decide) dX5_joins_103 ?_
        obtain rfl := Option.some.inj hf
        exact qi_ireti hC hQ (congrArg (fun w => (w, m)) hK) dX5_joins_107
  replace hf := qa_if_f h6 hf
  refine qi_lookup (tgt := 108) (off := 107) hC dX5_joins_1 (by decide) ((lv_osw h1 (by decide)).trans ((lv_osw h2 (by decide)).trans ((lv_osw h3 (by decide)).trans ((lv_osw h4 (by decide)).trans ((lv_osw h5 (by decide)).trans ((lv_osw h6 (by decide)).trans rfl)))))) (by decide) ?_
  refine qi_iload_n hC 1 rfl rfl dX5_joins_108 ?_
  refine qi_if_ne (tgt := 116) hC (by decide) dX5_joins_109 (fun h => ?_) (fun h => ?_)
  · replace hf := qa_if_f h hf
    refine qi_sub hC [] rfl ?_
    exact t_X5_joins_116 hC hQ hf hK
  · replace hf := qa_if_t h hf
    refine qi_iload_n hC 2 rfl rfl dX5_joins_112 ?_
    refine qi_if_eq (tgt := 120) hC (by decide) dX5_joins_113 (fun h => ?_) (fun h => ?_)
    · replace hf := qa_if_t h hf
      refine qi_iconst hC dX5_joins_120 kn_iconst_0 ?_
      obtain rfl := Option.some.inj hf
      exact qi_ireti hC hQ (congrArg (fun w => (w, m)) hK) dX5_joins_121
    · replace hf := qa_if_f h hf
      refine qi_sub hC [] rfl ?_
      exact t_X5_joins_116 hC hQ hf hK
set_option maxRecDepth 100000 in
set_option maxHeartbeats 4000000 in
theorem t_X5_says_265 {X : qaX} {l : Launch} {Y : qaY} {fin : Int32 × qaM} (hC : QC X l Y cX5_says RX5 10 2) (hQ : QRi X Y (some .int) fin.2 fin.1) {m : qaM} {z : (Int32 × qaM)} (hf : b_X5_says_265 m = some z) (hK : (qa_eq fin) z) : QG X Y 10 m 265 [(0, .ref (Y.2.2.1 1))] [] := by
  unfold b_X5_says_265 at hf
  refine qi_iconst hC dX5_says_265 kn_iconst_0 ?_
  refine qi_bipush hC dX5_says_266 kn_bipush_99 ?_
  refine qi_aload_n hC 0 rfl rfl dX5_says_268 ?_
  refine qi_getr hC kf_X5_25 sh_1 rfl dX5_says_269 ?_
  refine qi_iconst hC dX5_says_272 kn_iconst_0 ?_
  refine qi_iald hC tn_0 sh_5 vi_0_160 dX5_says_273 ?_
  refine qi_mmin hC km_X5_37 ka_mins kz_J9 ka_minc (by decide) (Nat.le_of_ble_eq_true rfl) dX5_says_274 ?_
  refine qi_mmax hC km_X5_31 ka_maxs kz_J9 ka_maxc (by decide) (Nat.le_of_ble_eq_true rfl) dX5_says_277 ?_
  obtain rfl := Option.some.inj hf
  exact qi_ireti hC hQ hK dX5_says_280
set_option maxRecDepth 100000 in
set_option maxHeartbeats 4000000 in
theorem t_X5_says_259 {X : qaX} {l : Launch} {Y : qaY} {fin : Int32 × qaM} (hC : QC X l Y cX5_says RX5 10 2) (hQ : QRi X Y (some .int) fin.2 fin.1) {m : qaM} {v1 : Int32} {v3 : Int32} {v5 : Int32} {v6 : Int32} {z : ((qaM × Int32 × Int32) ⊕ (Int32 × qaM))} (hf : b_X5_says_259 m v1 v3 v5 v6 = some z) (hK : (qa_K (fun s => QG X Y 10 s.1 71 [(0, .ref (Y.2.2.1 1)), (1, .int v1), (3, .int s.2.1), (5, .int v5), (6, .int s.2.2)] []) (qa_eq fin)) z) : QG X Y 10 m 259 [(0, .ref (Y.2.2.1 1)), (1, .int v1), (3, .int v3), (5, .int v5), (6, .int v6)] [] := by
  unfold b_X5_says_259 at hf
  obtain ⟨x7, ex7, hf⟩ := qa_lt_e hf
  refine qi_iinc hC (n := 1) (v := x7) 4 rfl ((congrArg (fun q => v6 + q) kn_iconst_1).trans ex7.symm) (by decide) rfl dX5_says_259 ?_
  refine qi_goto (tgt := 71) hC (by decide) dX5_says_262 ?_
  obtain rfl := Option.some.inj hf
  refine qi_sub hC [1, 2, 3, 4, 0] rfl ?_
  exact hK
set_option maxRecDepth 100000 in
set_option maxHeartbeats 4000000 in
theorem t_X5_says_148 {X : qaX} {l : Launch} {Y : qaY} {fin : Int32 × qaM} (hC : QC X l Y cX5_says RX5 10 2) (hQ : QRi X Y (some .int) fin.2 fin.1) {m : qaM} {v1 : Int32} {v3 : Int32} {v5 : Int32} {v6 : Int32} {s1 : Int32} {s2 : Int32} {z : ((qaM × Int32 × Int32) ⊕ (Int32 × qaM))} (hf : b_X5_says_148 m v1 v3 v5 v6 s1 s2 = some z) (hK : (qa_K (fun s => QG X Y 10 s.1 71 [(0, .ref (Y.2.2.1 1)), (1, .int v1), (3, .int s.2.1), (5, .int v5), (6, .int s.2.2)] []) (qa_eq fin)) z) : QG X Y 10 m 148 [(0, .ref (Y.2.2.1 1)), (1, .int v1), (3, .int v3), (5, .int v5), (6, .int v6)] [.int s2, .int s1, .ref (Y.2.2.1 5)] := by
  unfold b_X5_says_148 at hf
  obtain ⟨h9, hf⟩ := qa_ck_e hf
  obtain ⟨m10, em10, hf⟩ := qa_lt_e hf
  refine qi_iast hC rfl em10 sh_5 (qa_in_v h9) dX5_says_148 ?_
  obtain ⟨x11, ex11, hf⟩ := qa_lt_e hf
  refine qi_iinc hC (n := 1) (v := x11) 2 rfl ((congrArg (fun q => v3 + q) kn_iconst_1).trans ex11.symm) (by decide) rfl dX5_says_149 ?_
  refine qi_goto (tgt := 259) hC (by decide) dX5_says_152 ?_
  refine qi_sub hC [1, 2, 0, 3, 4] rfl ?_
  exact t_X5_says_259 hC hQ hf hK
set_option maxRecDepth 100000 in
set_option maxHeartbeats 4000000 in
theorem t_X5_says_119 {X : qaX} {l : Launch} {Y : qaY} {fin : Int32 × qaM} (hC : QC X l Y cX5_says RX5 10 2) (hQ : QRi X Y (some .int) fin.2 fin.1) {m : qaM} {v1 : Int32} {v3 : Int32} {v5 : Int32} {v6 : Int32} {v7 : Int32} {v8 : Int32} {z : ((qaM × Int32 × Int32) ⊕ (Int32 × qaM))} (hf : b_X5_says_119 m v1 v3 v5 v6 v7 v8 = some z) (hK : (qa_K (fun s => QG X Y 10 s.1 71 [(0, .ref (Y.2.2.1 1)), (1, .int v1), (3, .int s.2.1), (5, .int v5), (6, .int s.2.2)] []) (qa_eq fin)) z) : QG X Y 10 m 119 [(0, .ref (Y.2.2.1 1)), (1, .int v1), (3, .int v3), (5, .int v5), (6, .int v6), (7, .int v7), (8, .int v8)] [] := by
  unfold b_X5_says_119 at hf
  refine qi_iload_n hC 2 rfl rfl dX5_says_119 ?_
  refine qi_sipush hC dX5_says_120 kn_sipush_160 ?_
  refine qi_icmp_ge (tgt := 259) hC (by decide) dX5_says_123 (fun h => ?_) (fun h => ?_)
  · replace hf := qa_if_t h hf
    refine qi_sub hC [0, 1, 2, 3, 4] rfl ?_
    exact t_X5_says_259 hC hQ hf hK
  · replace hf := qa_if_f h hf
    refine qi_aload_n hC 0 rfl rfl dX5_says_126 ?_
    refine qi_getr hC kf_X5_25 sh_1 rfl dX5_says_127 ?_
    refine qi_iload_n hC 2 rfl rfl dX5_says_130 ?_
    refine qi_iload hC 5 rfl dX5_says_131 ?_
    refine qi_if_lt (tgt := 141) hC (by decide) dX5_says_133 (fun h => ?_) (fun h => ?_)
    · replace hf := qa_if_t h hf
      refine qi_aload_n hC 0 rfl rfl dX5_says_141 ?_
      refine qi_getr hC kf_X5_22 sh_1 rfl dX5_says_142 ?_
      refine qi_iload hC 6 rfl dX5_says_145 ?_
      obtain ⟨h8, hf⟩ := qa_ck_e hf
      refine qi_iald hC rfl sh_4 (qa_in_v h8) dX5_says_147 ?_
      refine qi_sub hC [0, 1, 2, 3, 4] rfl ?_
      exact t_X5_says_148 hC hQ hf hK
    · replace hf := qa_if_f h hf
      refine qi_iload hC 5 rfl dX5_says_136 ?_
      refine qi_goto (tgt := 148) hC (by decide) dX5_says_138 ?_
      refine qi_sub hC [0, 1, 2, 3, 4] rfl ?_
      exact t_X5_says_148 hC hQ hf hK
set_option maxRecDepth 100000 in
set_option maxHeartbeats 4000000 in
theorem t_X5_says_217 {X : qaX} {l : Launch} {Y : qaY} {fin : Int32 × qaM} (hC : QC X l Y cX5_says RX5 10 2) (hQ : QRi X Y (some .int) fin.2 fin.1) {m : qaM} {v1 : Int32} {v3 : Int32} {v5 : Int32} {v6 : Int32} {s1 : Int32} {s2 : Int32} {z : ((qaM × Int32 × Int32) ⊕ (Int32 × qaM))} (hf : b_X5_says_217 m v1 v3 v5 v6 s1 s2 = some z) (hK : (qa_K (fun s => QG X Y 10 s.1 71 [(0, .ref (Y.2.2.1 1)), (1, .int v1), (3, .int s.2.1), (5, .int v5), (6, .int s.2.2)] []) (qa_eq fin)) z) : QG X Y 10 m 217 [(0, .ref (Y.2.2.1 1)), (1, .int v1), (3, .int v3), (5, .int v5), (6, .int v6)] [.int s2, .int s1, .ref (Y.2.2.1 5)] := by
  unfold b_X5_says_217 at hf
  obtain ⟨h14, hf⟩ := qa_ck_e hf
  obtain ⟨m15, em15, hf⟩ := qa_lt_e hf
  refine qi_iast hC rfl em15 sh_5 (qa_in_v h14) dX5_says_217 ?_
  refine qi_goto (tgt := 259) hC (by decide) dX5_says_218 ?_
  exact t_X5_says_259 hC hQ hf hK
set_option maxRecDepth 100000 in
set_option maxHeartbeats 4000000 in
theorem t_X5_says_171 {X : qaX} {l : Launch} {Y : qaY} {fin : Int32 × qaM} (hC : QC X l Y cX5_says RX5 10 2) (hQ : QRi X Y (some .int) fin.2 fin.1) {m : qaM} {v1 : Int32} {v3 : Int32} {v5 : Int32} {v6 : Int32} {v7 : Int32} {z : ((qaM × Int32 × Int32) ⊕ (Int32 × qaM))} (hf : b_X5_says_171 m v1 v3 v5 v6 v7 = some z) (hK : (qa_K (fun s => QG X Y 10 s.1 71 [(0, .ref (Y.2.2.1 1)), (1, .int v1), (3, .int s.2.1), (5, .int v5), (6, .int s.2.2)] []) (qa_eq fin)) z) : QG X Y 10 m 171 [(0, .ref (Y.2.2.1 1)), (1, .int v1), (3, .int v3), (5, .int v5), (6, .int v6), (7, .int v7)] [] := by
  unfold b_X5_says_171 at hf
  refine qi_iload_n hC 2 rfl rfl dX5_says_171 ?_
  refine qi_iconst hC dX5_says_172 kn_iconst_1 ?_
  refine qi_icmp_lt (tgt := 259) hC (by decide) dX5_says_173 (fun h => ?_) (fun h => ?_)
  · replace hf := qa_if_t h hf
    refine qi_sub hC [0, 1, 2, 3, 4] rfl ?_
    exact t_X5_says_259 hC hQ hf hK
  · replace hf := qa_if_f h hf
    refine qi_aload_n hC 0 rfl rfl dX5_says_176 ?_
    refine qi_getr hC kf_X5_25 sh_1 rfl dX5_says_177 ?_
    refine qi_iload_n hC 2 rfl rfl dX5_says_180 ?_
    refine qi_iconst hC dX5_says_181 kn_iconst_1 ?_
    refine qi_isub hC dX5_says_182 ?_
    obtain ⟨h12, hf⟩ := qa_ck_e hf
    refine qi_iald hC rfl sh_5 (qa_in_v h12) dX5_says_183 ?_
    obtain ⟨x13, ex13, hf⟩ := qa_lt_e hf
    refine qi_nmi hC ex13 ?_
    refine qi_istore hC (by decide) rfl dX5_says_184 ?_
    refine qi_aload_n hC 1 rfl rfl dX5_says_186 ?_
    refine qi_getr hC kf_X5_25 sh_1 rfl dX5_says_187 ?_
    refine qi_iload_n hC 3 rfl rfl dX5_says_190 ?_
    refine qi_iconst hC dX5_says_191 kn_iconst_1 ?_
    refine qi_isub hC dX5_says_192 ?_
    refine qi_iload hC 6 rfl dX5_says_193 ?_
    refine qi_sipush hC dX5_says_195 kn_sipush_m200 ?_
    refine qi_icmp_ne (tgt := 207) hC (by decide) dX5_says_198 (fun h => ?_) (fun h => ?_)
    · replace hf := qa_if_f h hf
      refine qi_iload hC 0 rfl dX5_says_207 ?_
      refine qi_if_ne (tgt := 216) hC (by decide) dX5_says_209 (fun h => ?_) (fun h => ?_)
      · replace hf := qa_if_f h hf
        refine qi_iconst hC dX5_says_216 kn_iconst_0 ?_
        refine qi_sub hC [1, 2, 3, 4, 5] rfl ?_
        exact t_X5_says_217 hC hQ hf hK
      · replace hf := qa_if_t h hf
        refine qi_iconst hC dX5_says_212 kn_iconst_1 ?_
        refine qi_goto (tgt := 217) hC (by decide) dX5_says_213 ?_
        refine qi_sub hC [1, 2, 3, 4, 5] rfl ?_
        exact t_X5_says_217 hC hQ hf hK
    · replace hf := qa_if_t h hf
      refine qi_iload hC 0 rfl dX5_says_201 ?_
      refine qi_ineg hC dX5_says_203 ?_
      refine qi_goto (tgt := 217) hC (by decide) dX5_says_204 ?_
      refine qi_sub hC [1, 2, 3, 4, 5] rfl ?_
      exact t_X5_says_217 hC hQ hf hK
set_option maxRecDepth 100000 in
set_option maxHeartbeats 4000000 in
theorem t_X5_says_155 {X : qaX} {l : Launch} {Y : qaY} {fin : Int32 × qaM} (hC : QC X l Y cX5_says RX5 10 2) (hQ : QRi X Y (some .int) fin.2 fin.1) {m : qaM} {v1 : Int32} {v3 : Int32} {v5 : Int32} {v6 : Int32} {v7 : Int32} {z : ((qaM × Int32 × Int32) ⊕ (Int32 × qaM))} (hf : b_X5_says_155 m v1 v3 v5 v6 v7 = some z) (hK : (qa_K (fun s => QG X Y 10 s.1 71 [(0, .ref (Y.2.2.1 1)), (1, .int v1), (3, .int s.2.1), (5, .int v5), (6, .int s.2.2)] []) (qa_eq fin)) z) : QG X Y 10 m 155 [(0, .ref (Y.2.2.1 1)), (1, .int v1), (3, .int v3), (5, .int v5), (6, .int v6), (7, .int v7)] [] := by
  unfold b_X5_says_155 at hf
  refine qi_iload hC 5 rfl dX5_says_155 ?_
  refine qi_sipush hC dX5_says_157 kn_sipush_m200 ?_
  refine qi_icmp_eq (tgt := 171) hC (by decide) dX5_says_160 (fun h => ?_) (fun h => ?_)
  · replace hf := qa_if_t h hf
    exact t_X5_says_171 hC hQ hf hK
  · replace hf := qa_if_f h hf
    refine qi_iload hC 5 rfl dX5_says_163 ?_
    refine qi_sipush hC dX5_says_165 kn_sipush_m305 ?_
    refine qi_icmp_ne (tgt := 221) hC (by decide) dX5_says_168 (fun h => ?_) (fun h => ?_)
    · replace hf := qa_if_f h hf
      refine qi_iload_n hC 2 rfl rfl dX5_says_221 ?_
      refine qi_iconst hC dX5_says_222 kn_iconst_2 ?_
      refine qi_icmp_lt (tgt := 259) hC (by decide) dX5_says_223 (fun h => ?_) (fun h => ?_)
      · replace hf := qa_if_t h hf
        refine qi_sub hC [0, 1, 2, 3, 4] rfl ?_
        exact t_X5_says_259 hC hQ hf hK
      · replace hf := qa_if_f h hf
        refine qi_aload_n hC 0 rfl rfl dX5_says_226 ?_
        refine qi_getr hC kf_X5_25 sh_1 rfl dX5_says_227 ?_
        refine qi_iload_n hC 2 rfl rfl dX5_says_230 ?_
        refine qi_iconst hC dX5_says_231 kn_iconst_2 ?_
        refine qi_isub hC dX5_says_232 ?_
        refine qi_iload hC 5 rfl dX5_says_233 ?_
        refine qi_ineg hC dX5_says_235 ?_
        refine qi_aload_n hC 0 rfl rfl dX5_says_236 ?_
        refine qi_getr hC kf_X5_25 sh_1 rfl dX5_says_237 ?_
        refine qi_iload_n hC 2 rfl rfl dX5_says_240 ?_
        refine qi_iconst hC dX5_says_241 kn_iconst_2 ?_
        refine qi_isub hC dX5_says_242 ?_
        obtain ⟨h16, hf⟩ := qa_ck_e hf
        refine qi_iald hC rfl sh_5 (qa_in_v h16) dX5_says_243 ?_
        refine qi_aload_n hC 0 rfl rfl dX5_says_244 ?_
        refine qi_getr hC kf_X5_25 sh_1 rfl dX5_says_245 ?_
        refine qi_iload_n hC 2 rfl rfl dX5_says_248 ?_
        refine qi_iconst hC dX5_says_249 kn_iconst_1 ?_
        refine qi_isub hC dX5_says_250 ?_
        obtain ⟨h17, hf⟩ := qa_ck_e hf
        refine qi_iald hC rfl sh_5 (qa_in_v h17) dX5_says_251 ?_
        obtain ⟨q18, hq18, hf⟩ := Option.bind_eq_some_iff.mp hf
        refine qi_callSi hC (as := [.int (-v7), .int (m 5 (v3 - (2 : Int32)).toNatClampNeg), .int (m 5 (v3 - (1 : Int32)).toNatClampNeg)]) (c_X5_joins _ _ _ _ _ _ _ hq18) kl_X5_40 kc_X5_joins rfl rfl (by decide) (by decide) (Nat.le_of_ble_eq_true rfl) dX5_says_252 ?_
        obtain ⟨h19, hf⟩ := qa_ck_e hf
        obtain ⟨m20, em20, hf⟩ := qa_lt_e hf
        refine qi_iast hC rfl em20 sh_5 (qa_in_v h19) dX5_says_255 ?_
        obtain ⟨x21, ex21, hf⟩ := qa_lt_e hf
        refine qi_iinc hC (n := -1) (v := x21) 2 rfl ((congrArg (fun q => v3 + q) kn_iconst_m1).trans ex21.symm) (by decide) rfl dX5_says_256 ?_
        refine qi_sub hC [1, 2, 0, 3, 4] rfl ?_
        exact t_X5_says_259 hC hQ hf hK
    · replace hf := qa_if_t h hf
      exact t_X5_says_171 hC hQ hf hK
set_option maxRecDepth 100000 in
set_option maxHeartbeats 4000000 in
theorem t_X5_says_71 {X : qaX} {l : Launch} {Y : qaY} {fin : Int32 × qaM} (hC : QC X l Y cX5_says RX5 10 2) (hQ : QRi X Y (some .int) fin.2 fin.1) {m : qaM} {v1 : Int32} {v3 : Int32} {v5 : Int32} {v6 : Int32} {z : ((qaM × Int32 × Int32) ⊕ (Int32 × qaM))} (hf : b_X5_says_71 m v1 v3 v5 v6 = some z) (hK : (qa_K (fun s => QG X Y 10 s.1 71 [(0, .ref (Y.2.2.1 1)), (1, .int v1), (3, .int s.2.1), (5, .int v5), (6, .int s.2.2)] []) (qa_eq fin)) z) : QG X Y 10 m 71 [(0, .ref (Y.2.2.1 1)), (1, .int v1), (3, .int v3), (5, .int v5), (6, .int v6)] [] := by
  unfold b_X5_says_71 at hf
  refine qi_iload hC 4 rfl dX5_says_71 ?_
  refine qi_iload hC 3 rfl dX5_says_73 ?_
  refine qi_icmp_ge (tgt := 265) hC (by decide) dX5_says_75 (fun h => ?_) (fun h => ?_)
  · replace hf := qa_if_t h hf
    obtain ⟨z, rfl, hg⟩ := qa_inr_e hf; have hf := hg
    refine qi_sub hC [0] rfl ?_
    exact t_X5_says_265 hC hQ hf hK
  · replace hf := qa_if_f h hf
    refine qi_aload_n hC 0 rfl rfl dX5_says_78 ?_
    refine qi_getr hC kf_X5_15 sh_1 rfl dX5_says_79 ?_
    refine qi_iload_n hC 1 rfl rfl dX5_says_82 ?_
    refine qi_sipush hC dX5_says_83 kn_sipush_160 ?_
    refine qi_imul hC dX5_says_86 ?_
    refine qi_iload hC 4 rfl dX5_says_87 ?_
    refine qi_iadd hC dX5_says_89 ?_
    obtain ⟨h4, hf⟩ := qa_ck_e hf
    refine qi_iald hC rfl sh_2 (qa_in_v h4) dX5_says_90 ?_
    obtain ⟨x5, ex5, hf⟩ := qa_lt_e hf
    refine qi_nmi hC ex5 ?_
    refine qi_istore hC (by decide) rfl dX5_says_91 ?_
    refine qi_iload hC 0 rfl dX5_says_93 ?_
    refine qi_ineg hC dX5_says_95 ?_
    refine qi_sipush hC dX5_says_96 kn_sipush_306 ?_
    refine qi_isub hC dX5_says_99 ?_
    obtain ⟨x6, ex6, hf⟩ := qa_lt_e hf
    refine qi_nmi hC ex6 ?_
    refine qi_istore hC (by decide) rfl dX5_says_100 ?_
    refine qi_iload hC 1 rfl dX5_says_102 ?_
    refine qi_if_ge (tgt := 119) hC (by decide) dX5_says_104 (fun h => ?_) (fun h => ?_)
    · replace hf := qa_if_t h hf
      refine qi_sub hC [2, 3, 4, 5, 6, 1, 0] rfl ?_
      exact t_X5_says_119 hC hQ hf hK
    · replace hf := qa_if_f h hf
      refine qi_iload hC 0 rfl dX5_says_107 ?_
      refine qi_if_lt (tgt := 155) hC (by decide) dX5_says_109 (fun h => ?_) (fun h => ?_)
      · replace hf := qa_if_t h hf
        refine qi_sub hC [2, 3, 4, 5, 6, 1] rfl ?_
        exact t_X5_says_155 hC hQ hf hK
      · replace hf := qa_if_f h hf
        refine qi_iload hC 0 rfl dX5_says_112 ?_
        refine qi_bipush hC dX5_says_114 kn_bipush_6 ?_
        refine qi_icmp_ge (tgt := 155) hC (by decide) dX5_says_116 (fun h => ?_) (fun h => ?_)
        · replace hf := qa_if_t h hf
          refine qi_sub hC [2, 3, 4, 5, 6, 1] rfl ?_
          exact t_X5_says_155 hC hQ hf hK
        · replace hf := qa_if_f h hf
          refine qi_sub hC [2, 3, 4, 5, 6, 1, 0] rfl ?_
          exact t_X5_says_119 hC hQ hf hK
set_option maxRecDepth 100000 in
set_option maxHeartbeats 4000000 in
theorem tn_X5_says_71 {X : qaX} {l : Launch} {Y : qaY} {fin : Int32 × qaM} (hC : QC X l Y cX5_says RX5 10 2) (hQ : QRi X Y (some .int) fin.2 fin.1) {v1 : Int32} {v5 : Int32} {z : (Int32 × qaM)} (hK : (qa_eq fin) z) : ∀ (n : Nat) (s : qaM × Int32 × Int32), qa_lp (fun s => b_X5_says_71 s.1 v1 s.2.1 v5 s.2.2) n s = some z → QG X Y 10 s.1 71 [(0, .ref (Y.2.2.1 1)), (1, .int v1), (3, .int s.2.1), (5, .int v5), (6, .int s.2.2)] [] := by
  intro n
  induction n with
  | zero => intro s hf; cases hf
  | succ n ih =>
    intro s hf
    obtain ⟨y, hy, hf⟩ := qa_lp_e hf
    refine t_X5_says_71 hC hQ hy ?_
    rcases hf with ⟨s', rfl, hf⟩ | rfl
    · exact ih s' hf
    · exact hK
set_option maxRecDepth 100000 in
set_option maxHeartbeats 4000000 in
theorem tl_X5_says_71 {X : qaX} {l : Launch} {Y : qaY} {fin : Int32 × qaM} (hC : QC X l Y cX5_says RX5 10 2) (hQ : QRi X Y (some .int) fin.2 fin.1) {m : qaM} {v1 : Int32} {v3 : Int32} {v5 : Int32} {v6 : Int32} {z : (Int32 × qaM)} (hf : lp_X5_says_71 m v1 v3 v5 v6 = some z) (hK : (qa_eq fin) z) : QG X Y 10 m 71 [(0, .ref (Y.2.2.1 1)), (1, .int v1), (3, .int v3), (5, .int v5), (6, .int v6)] [] :=
  tn_X5_says_71 hC hQ hK qa_F (m, v3, v6) hf
set_option maxRecDepth 100000 in
set_option maxHeartbeats 4000000 in
theorem t_X5_says_47 {X : qaX} {l : Launch} {Y : qaY} {fin : Int32 × qaM} (hC : QC X l Y cX5_says RX5 10 2) (hQ : QRi X Y (some .int) fin.2 fin.1) {m : qaM} {v1 : Int32} {v2 : Int32} {v3 : Int32} {s0 : Int32} {z : (Int32 × qaM)} (hf : b_X5_says_47 m v1 v2 v3 s0 = some z) (hK : (qa_eq fin) z) : QG X Y 10 m 47 [(0, .ref (Y.2.2.1 1)), (1, .int v1), (2, .int v2), (3, .int v3)] [.int s0] := by
  unfold b_X5_says_47 at hf
  refine qi_istore hC (by decide) rfl dX5_says_47 ?_
  refine qi_aload_n hC 1 rfl rfl dX5_says_49 ?_
  refine qi_getr hC kf_X5_19 sh_1 rfl dX5_says_50 ?_
  refine qi_iload_n hC 2 rfl rfl dX5_says_53 ?_
  refine qi_iconst hC dX5_says_54 kn_iconst_3 ?_
  refine qi_imul hC dX5_says_55 ?_
  refine qi_iload_n hC 3 rfl rfl dX5_says_56 ?_
  refine qi_iadd hC dX5_says_57 ?_
  obtain ⟨h2, hf⟩ := qa_ck_e hf
  refine qi_iald hC rfl sh_3 (qa_in_v h2) dX5_says_58 ?_
  refine qi_sipush hC dX5_says_59 kn_sipush_160 ?_
  refine qi_mmin hC km_X5_37 ka_mins kz_J9 ka_minc (by decide) (Nat.le_of_ble_eq_true rfl) dX5_says_62 ?_
  obtain ⟨x3, ex3, hf⟩ := qa_lt_e hf
  refine qi_nmi hC ex3 ?_
  refine qi_istore hC (by decide) rfl dX5_says_65 ?_
  refine qi_iload hC 1 rfl dX5_says_67 ?_
  refine qi_istore hC (by decide) rfl dX5_says_69 ?_
  refine qi_sub hC [3, 4, 6, 1, 0] rfl ?_
  exact tl_X5_says_71 hC hQ hf hK
set_option maxRecDepth 100000 in
set_option maxHeartbeats 4000000 in
theorem c_X5_says (l : Launch) (Y : qaY) (m : qaM) (v1 : Int32) (v2 : Int32) (q : Int32 × qaM) (hf : f_X5_says m v1 v2 = some q) : qaMi l Y yX5_says cX5_says 10 (some .int) 2 [.ref (Y.2.2.1 1), .int v1, .int v2] m q.2 q.1 := by
  refine qa_enti (by decide +kernel) (Nat.le_of_ble_eq_true rfl) fun X hC hQ => ?_
  have hK : qa_eq q q := rfl
  unfold f_X5_says at hf
  refine qi_iload_n hC 1 rfl rfl dX5_says_0 ?_
  refine qi_if_lt (tgt := 19) hC (by decide) dX5_says_1 (fun h => ?_) (fun h => ?_)
  · replace hf := qa_if_t h hf
    refine qi_iconst hC dX5_says_19 kn_iconst_0 ?_
    obtain rfl := Option.some.inj hf
    exact qi_ireti hC hQ hK dX5_says_20
  · replace hf := qa_if_f h hf
    refine qi_iload_n hC 1 rfl rfl dX5_says_4 ?_
    refine qi_bipush hC dX5_says_5 kn_bipush_6 ?_
    refine qi_icmp_ge (tgt := 19) hC (by decide) dX5_says_7 (fun h => ?_) (fun h => ?_)
    · replace hf := qa_if_t h hf
      refine qi_iconst hC dX5_says_19 kn_iconst_0 ?_
      obtain rfl := Option.some.inj hf
      exact qi_ireti hC hQ hK dX5_says_20
    · replace hf := qa_if_f h hf
      refine qi_iload_n hC 2 rfl rfl dX5_says_10 ?_
      refine qi_if_lt (tgt := 19) hC (by decide) dX5_says_11 (fun h => ?_) (fun h => ?_)
      · replace hf := qa_if_t h hf
        refine qi_iconst hC dX5_says_19 kn_iconst_0 ?_
        obtain rfl := Option.some.inj hf
        exact qi_ireti hC hQ hK dX5_says_20
      · replace hf := qa_if_f h hf
        refine qi_iload_n hC 2 rfl rfl dX5_says_14 ?_
        refine qi_iconst hC dX5_says_15 kn_iconst_3 ?_
        refine qi_icmp_lt (tgt := 21) hC (by decide) dX5_says_16 (fun h => ?_) (fun h => ?_)
        · replace hf := qa_if_t h hf
          refine qi_iconst hC dX5_says_21 kn_iconst_0 ?_
          refine qi_istore_n hC rfl (by decide) rfl dX5_says_22 ?_
          refine qi_iload_n hC 3 rfl rfl dX5_says_23 ?_
          refine qi_if_ne (tgt := 31) hC (by decide) dX5_says_24 (fun h => ?_) (fun h => ?_)
          · replace hf := qa_if_f h hf
            refine qi_aload_n hC 1 rfl rfl dX5_says_31 ?_
            refine qi_getr hC kf_X5_19 sh_1 rfl dX5_says_32 ?_
            refine qi_iload_n hC 2 rfl rfl dX5_says_35 ?_
            refine qi_iconst hC dX5_says_36 kn_iconst_3 ?_
            refine qi_imul hC dX5_says_37 ?_
            refine qi_iload_n hC 3 rfl rfl dX5_says_38 ?_
            refine qi_iadd hC dX5_says_39 ?_
            refine qi_iconst hC dX5_says_40 kn_iconst_1 ?_
            refine qi_isub hC dX5_says_41 ?_
            obtain ⟨h1, hf⟩ := qa_ck_e hf
            refine qi_iald hC rfl sh_3 (qa_in_v h1) dX5_says_42 ?_
            refine qi_iconst hC dX5_says_43 kn_iconst_0 ?_
            refine qi_mmax hC km_X5_31 ka_maxs kz_J9 ka_maxc (by decide) (Nat.le_of_ble_eq_true rfl) dX5_says_44 ?_
            refine qi_sub hC [1, 2, 3, 0] rfl ?_
            exact t_X5_says_47 hC hQ hf hK
          · replace hf := qa_if_t h hf
            refine qi_iconst hC dX5_says_27 kn_iconst_0 ?_
            refine qi_goto (tgt := 47) hC (by decide) dX5_says_28 ?_
            refine qi_sub hC [1, 2, 3, 0] rfl ?_
            exact t_X5_says_47 hC hQ hf hK
        · replace hf := qa_if_f h hf
          refine qi_iconst hC dX5_says_19 kn_iconst_0 ?_
          obtain rfl := Option.some.inj hf
          exact qi_ireti hC hQ hK dX5_says_20
set_option maxRecDepth 100000 in
set_option maxHeartbeats 4000000 in
theorem c_X5_tellsLinen (l : Launch) (Y : qaY) (m : qaM) (v1 : Int32) (v2 : Int32) (v3 : Int32) (v4 : Int32) (q : qaM) (hf : f_X5_tellsLinen m v1 v2 v3 v4 = some q) : qaMv l Y yX5_tellsLinen cX5_tellsLinen 5 1 [.ref (Y.2.2.1 1), .int v1, .int v2, .int v3, .int v4] m q := by
  refine qa_entv (by decide +kernel) (Nat.le_of_ble_eq_true rfl) fun X hC hQ => ?_
  have hK : qa_eq q q := rfl
  unfold f_X5_tellsLinen at hf
  refine qi_aload_n hC 0 rfl rfl dX5_tellsLinen_0 ?_
  refine qi_getr hC kf_X5_22 sh_1 rfl dX5_tellsLinen_1 ?_
  refine qi_iconst hC dX5_tellsLinen_4 kn_iconst_0 ?_
  refine qi_iload_n hC 1 rfl rfl dX5_tellsLinen_5 ?_
  obtain ⟨m1, em1, hf⟩ := qa_lt_e hf
  refine qi_iast hC tn_0 em1 sh_4 vi_0_6 dX5_tellsLinen_6 ?_
  refine qi_aload_n hC 0 rfl rfl dX5_tellsLinen_7 ?_
  refine qi_getr hC kf_X5_22 sh_1 rfl dX5_tellsLinen_8 ?_
  refine qi_iconst hC dX5_tellsLinen_11 kn_iconst_1 ?_
  refine qi_iload_n hC 2 rfl rfl dX5_tellsLinen_12 ?_
  obtain ⟨m2, em2, hf⟩ := qa_lt_e hf
  refine qi_iast hC tn_1 em2 sh_4 vi_1_6 dX5_tellsLinen_13 ?_
  refine qi_aload_n hC 0 rfl rfl dX5_tellsLinen_14 ?_
  refine qi_getr hC kf_X5_22 sh_1 rfl dX5_tellsLinen_15 ?_
  refine qi_iconst hC dX5_tellsLinen_18 kn_iconst_2 ?_
  refine qi_iload_n hC 3 rfl rfl dX5_tellsLinen_19 ?_
  obtain ⟨m3, em3, hf⟩ := qa_lt_e hf
  refine qi_iast hC tn_2 em3 sh_4 vi_2_6 dX5_tellsLinen_20 ?_
  refine qi_aload_n hC 0 rfl rfl dX5_tellsLinen_21 ?_
  refine qi_getr hC kf_X5_22 sh_1 rfl dX5_tellsLinen_22 ?_
  refine qi_iconst hC dX5_tellsLinen_25 kn_iconst_3 ?_
  refine qi_iload hC 4 rfl dX5_tellsLinen_26 ?_
  obtain ⟨m4, em4, hf⟩ := qa_lt_e hf
  refine qi_iast hC tn_3 em4 sh_4 vi_3_6 dX5_tellsLinen_28 ?_
  obtain rfl := Option.some.inj hf
  exact qi_vret hC hQ hK dX5_tellsLinen_29
set_option maxRecDepth 100000 in
set_option maxHeartbeats 4000000 in
theorem c_X5_tellsWeek (l : Launch) (Y : qaY) (m : qaM) (v1 : Int32) (v2 : Int32) (q : qaM) (hf : f_X5_tellsWeek m v1 v2 = some q) : qaMv l Y yX5_tellsWeek cX5_tellsWeek 3 1 [.ref (Y.2.2.1 1), .int v1, .int v2] m q := by
  refine qa_entv (by decide +kernel) (Nat.le_of_ble_eq_true rfl) fun X hC hQ => ?_
  have hK : qa_eq q q := rfl
  unfold f_X5_tellsWeek at hf
  refine qi_aload_n hC 0 rfl rfl dX5_tellsWeek_0 ?_
  refine qi_getr hC kf_X5_22 sh_1 rfl dX5_tellsWeek_1 ?_
  refine qi_iconst hC dX5_tellsWeek_4 kn_iconst_4 ?_
  refine qi_iload_n hC 1 rfl rfl dX5_tellsWeek_5 ?_
  obtain ⟨m1, em1, hf⟩ := qa_lt_e hf
  refine qi_iast hC tn_4 em1 sh_4 vi_4_6 dX5_tellsWeek_6 ?_
  refine qi_aload_n hC 0 rfl rfl dX5_tellsWeek_7 ?_
  refine qi_getr hC kf_X5_22 sh_1 rfl dX5_tellsWeek_8 ?_
  refine qi_iconst hC dX5_tellsWeek_11 kn_iconst_5 ?_
  refine qi_iload_n hC 2 rfl rfl dX5_tellsWeek_12 ?_
  obtain ⟨m2, em2, hf⟩ := qa_lt_e hf
  refine qi_iast hC tn_5 em2 sh_4 vi_5_6 dX5_tellsWeek_13 ?_
  obtain rfl := Option.some.inj hf
  exact qi_vret hC hQ hK dX5_tellsWeek_14
set_option maxRecDepth 100000 in
set_option maxHeartbeats 4000000 in
theorem c_X2_at (l : Launch) (Y : qaY) {i0 : Nat} (hi0 : qaPil i0) (m : qaM) (v1 : Int32) (q : Int32) (hf : f_X2_at i0 m v1 = some q) : qaMi l Y yX2_at cX2_at 2 (some .int) 1 [.ref (Y.2.2.1 i0), .int v1] m m q := by
  refine qa_enti (by decide +kernel) (Nat.le_of_ble_eq_true rfl) fun X hC hQ => ?_
  have hK : qa_eq q q := rfl
  unfold f_X2_at at hf
  refine qi_iload_n hC 1 rfl rfl dX2_at_0 ?_
  refine qi_if_lt (tgt := 27) hC (by decide) dX2_at_1 (fun h => ?_) (fun h => ?_)
  · replace hf := qa_if_t h hf
    refine qi_iconst hC dX2_at_27 kn_iconst_m1 ?_
    obtain rfl := Option.some.inj hf
    exact qi_ireti hC hQ (congrArg (fun w => (w, m)) hK) dX2_at_28
  · replace hf := qa_if_f h hf
    refine qi_iload_n hC 1 rfl rfl dX2_at_4 ?_
    refine qi_aload_n hC 0 rfl rfl dX2_at_5 ?_
    refine qi_geti hC kf_X2_15 hi0.1 rfl dX2_at_6 ?_
    refine qi_icmp_ge (tgt := 27) hC (by decide) dX2_at_9 (fun h => ?_) (fun h => ?_)
    · replace hf := qa_if_t h hf
      refine qi_iconst hC dX2_at_27 kn_iconst_m1 ?_
      obtain rfl := Option.some.inj hf
      exact qi_ireti hC hQ (congrArg (fun w => (w, m)) hK) dX2_at_28
    · replace hf := qa_if_f h hf
      refine qi_iload_n hC 1 rfl rfl dX2_at_12 ?_
      refine qi_bipush hC dX2_at_13 kn_bipush_8 ?_
      refine qi_icmp_ge (tgt := 27) hC (by decide) dX2_at_15 (fun h => ?_) (fun h => ?_)
      · replace hf := qa_if_t h hf
        refine qi_iconst hC dX2_at_27 kn_iconst_m1 ?_
        obtain rfl := Option.some.inj hf
        exact qi_ireti hC hQ (congrArg (fun w => (w, m)) hK) dX2_at_28
      · replace hf := qa_if_f h hf
        refine qi_aload_n hC 0 rfl rfl dX2_at_18 ?_
        refine qi_getr hC kf_X2_9 hi0.1 rfl dX2_at_19 ?_
        refine qi_iload_n hC 1 rfl rfl dX2_at_22 ?_
        obtain ⟨h1, hf⟩ := qa_ck_e hf
        refine qi_iald hC rfl hi0.2 (qa_in_v h1) dX2_at_23 ?_
        refine qi_goto (tgt := 28) hC (by decide) dX2_at_24 ?_
        obtain rfl := Option.some.inj hf
        exact qi_ireti hC hQ (congrArg (fun w => (w, m)) hK) dX2_at_28
set_option maxRecDepth 100000 in
set_option maxHeartbeats 4000000 in
theorem c_X2_insertsAt (l : Launch) (Y : qaY) {i0 : Nat} (hi0 : qaPil i0) (m : qaM) (v1 : Int32) (v2 : Int32) (q : qaM) (hf : f_X2_insertsAt i0 m v1 v2 = some q) : qaMv l Y yX2_insertsAt cX2_insertsAt 3 1 [.ref (Y.2.2.1 i0), .int v1, .int v2] m q := by
  refine qa_entv (by decide +kernel) (Nat.le_of_ble_eq_true rfl) fun X hC hQ => ?_
  have hK : qa_eq q q := rfl
  unfold f_X2_insertsAt at hf
  refine qi_iload_n hC 1 rfl rfl dX2_insertsAt_0 ?_
  refine qi_if_lt (tgt := 21) hC (by decide) dX2_insertsAt_1 (fun h => ?_) (fun h => ?_)
  · replace hf := qa_if_t h hf
    obtain rfl := Option.some.inj hf
    exact qi_vret hC hQ hK dX2_insertsAt_21
  · replace hf := qa_if_f h hf
    refine qi_iload_n hC 1 rfl rfl dX2_insertsAt_4 ?_
    refine qi_aload_n hC 0 rfl rfl dX2_insertsAt_5 ?_
    refine qi_geti hC kf_X2_15 hi0.1 rfl dX2_insertsAt_6 ?_
    refine qi_icmp_gt (tgt := 21) hC (by decide) dX2_insertsAt_9 (fun h => ?_) (fun h => ?_)
    · replace hf := qa_if_t h hf
      obtain rfl := Option.some.inj hf
      exact qi_vret hC hQ hK dX2_insertsAt_21
    · replace hf := qa_if_f h hf
      refine qi_aload_n hC 0 rfl rfl dX2_insertsAt_12 ?_
      refine qi_geti hC kf_X2_15 hi0.1 rfl dX2_insertsAt_13 ?_
      refine qi_bipush hC dX2_insertsAt_16 kn_bipush_8 ?_
      refine qi_icmp_lt (tgt := 22) hC (by decide) dX2_insertsAt_18 (fun h => ?_) (fun h => ?_)
      · replace hf := qa_if_t h hf
        refine qi_aload_n hC 0 rfl rfl dX2_insertsAt_22 ?_
        refine qi_getr hC kf_X2_9 hi0.1 rfl dX2_insertsAt_23 ?_
        refine qi_iload_n hC 1 rfl rfl dX2_insertsAt_26 ?_
        refine qi_aload_n hC 0 rfl rfl dX2_insertsAt_27 ?_
        refine qi_getr hC kf_X2_9 hi0.1 rfl dX2_insertsAt_28 ?_
        refine qi_iload_n hC 1 rfl rfl dX2_insertsAt_31 ?_
        refine qi_iconst hC dX2_insertsAt_32 kn_iconst_1 ?_
        refine qi_iadd hC dX2_insertsAt_33 ?_
        refine qi_aload_n hC 0 rfl rfl dX2_insertsAt_34 ?_
        refine qi_geti hC kf_X2_15 hi0.1 rfl dX2_insertsAt_35 ?_
        refine qi_iload_n hC 1 rfl rfl dX2_insertsAt_38 ?_
        refine qi_isub hC dX2_insertsAt_39 ?_
        obtain ⟨h2, hf⟩ := qa_ck_e hf
        obtain ⟨m1, em1, hf⟩ := qa_lt_e hf
        obtain ⟨c1, c2, c3, c4, c5⟩ := qa_cpok_e h2
        refine qi_copy hC em1 km_X2_19 ka_nat ka_stat kz_J10 hi0.2 hi0.2 c1 c2 c3 c4 c5 (by decide) (Nat.le_of_ble_eq_true rfl) dX2_insertsAt_40 ?_
        refine qi_aload_n hC 0 rfl rfl dX2_insertsAt_43 ?_
        refine qi_getr hC kf_X2_9 hi0.1 rfl dX2_insertsAt_44 ?_
        refine qi_iload_n hC 1 rfl rfl dX2_insertsAt_47 ?_
        refine qi_iload_n hC 2 rfl rfl dX2_insertsAt_48 ?_
        obtain ⟨h3, hf⟩ := qa_ck_e hf
        obtain ⟨m4, em4, hf⟩ := qa_lt_e hf
        refine qi_iast hC rfl em4 hi0.2 (qa_in_v h3) dX2_insertsAt_49 ?_
        refine qi_aload_n hC 0 rfl rfl dX2_insertsAt_50 ?_
        refine qi_dup hC rfl dX2_insertsAt_51 ?_
        refine qi_geti hC kf_X2_15 hi0.1 rfl dX2_insertsAt_52 ?_
        refine qi_iconst hC dX2_insertsAt_55 kn_iconst_1 ?_
        refine qi_iadd hC dX2_insertsAt_56 ?_
        obtain ⟨m5, em5, hf⟩ := qa_lt_e hf
        refine qi_puti hC em5 kp_X2_15 hi0.1 rfl rfl rfl dX2_insertsAt_57 ?_
        obtain rfl := Option.some.inj hf
        exact qi_vret hC hQ hK dX2_insertsAt_60
      · replace hf := qa_if_f h hf
        obtain rfl := Option.some.inj hf
        exact qi_vret hC hQ hK dX2_insertsAt_21
set_option maxRecDepth 100000 in
set_option maxHeartbeats 4000000 in
theorem c_X2_isPlace (l : Launch) (Y : qaY) {i0 : Nat} (hi0 : qaPil i0) (m : qaM) (v1 : Int32) (q : Int32) (hf : f_X2_isPlace i0 m v1 = some q) : qaMi l Y yX2_isPlace cX2_isPlace 2 (some .boolean) 1 [.ref (Y.2.2.1 i0), .int v1] m m q := by
  refine qa_enti (by decide +kernel) (Nat.le_of_ble_eq_true rfl) fun X hC hQ => ?_
  have hK : qa_eq q q := rfl
  unfold f_X2_isPlace at hf
  refine qi_iload_n hC 1 rfl rfl dX2_isPlace_0 ?_
  refine qi_if_lt (tgt := 22) hC (by decide) dX2_isPlace_1 (fun h => ?_) (fun h => ?_)
  · replace hf := qa_if_t h hf
    refine qi_iconst hC dX2_isPlace_22 kn_iconst_0 ?_
    obtain rfl := Option.some.inj hf
    exact qi_iretz hC hQ (congrArg (fun w => (w, m)) hK) rfl dX2_isPlace_23
  · replace hf := qa_if_f h hf
    refine qi_iload_n hC 1 rfl rfl dX2_isPlace_4 ?_
    refine qi_aload_n hC 0 rfl rfl dX2_isPlace_5 ?_
    refine qi_geti hC kf_X2_15 hi0.1 rfl dX2_isPlace_6 ?_
    refine qi_icmp_ge (tgt := 22) hC (by decide) dX2_isPlace_9 (fun h => ?_) (fun h => ?_)
    · replace hf := qa_if_t h hf
      refine qi_iconst hC dX2_isPlace_22 kn_iconst_0 ?_
      obtain rfl := Option.some.inj hf
      exact qi_iretz hC hQ (congrArg (fun w => (w, m)) hK) rfl dX2_isPlace_23
    · replace hf := qa_if_f h hf
      refine qi_iload_n hC 1 rfl rfl dX2_isPlace_12 ?_
      refine qi_bipush hC dX2_isPlace_13 kn_bipush_8 ?_
      refine qi_icmp_ge (tgt := 22) hC (by decide) dX2_isPlace_15 (fun h => ?_) (fun h => ?_)
      · replace hf := qa_if_t h hf
        refine qi_iconst hC dX2_isPlace_22 kn_iconst_0 ?_
        obtain rfl := Option.some.inj hf
        exact qi_iretz hC hQ (congrArg (fun w => (w, m)) hK) rfl dX2_isPlace_23
      · replace hf := qa_if_f h hf
        refine qi_iconst hC dX2_isPlace_18 kn_iconst_1 ?_
        refine qi_goto (tgt := 23) hC (by decide) dX2_isPlace_19 ?_
        obtain rfl := Option.some.inj hf
        exact qi_iretz hC hQ (congrArg (fun w => (w, m)) hK) rfl dX2_isPlace_23
set_option maxRecDepth 100000 in
set_option maxHeartbeats 4000000 in
theorem c_X1_notes (l : Launch) (Y : qaY) {i0 : Nat} (hi0 : qaLin i0) (m : qaM) (v1 : Int32) (v2 : Int32) (v3 : Int32) (q : qaM) (hf : f_X1_notes i0 m v1 v2 v3 = some q) : qaMv l Y yX1_notes cX1_notes 4 1 [.ref (Y.2.2.1 i0), .int v1, .int v2, .int v3] m q := by
  refine qa_entv (by decide +kernel) (Nat.le_of_ble_eq_true rfl) fun X hC hQ => ?_
  have hK : qa_eq q q := rfl
  unfold f_X1_notes at hf
  refine qi_iload_n hC 1 rfl rfl dX1_notes_0 ?_
  refine qi_if_lt (tgt := 32) hC (by decide) dX1_notes_1 (fun h => ?_) (fun h => ?_)
  · replace hf := qa_if_t h hf
    obtain rfl := Option.some.inj hf
    exact qi_vret hC hQ hK dX1_notes_32
  · replace hf := qa_if_f h hf
    refine qi_iload_n hC 1 rfl rfl dX1_notes_4 ?_
    refine qi_bipush hC dX1_notes_5 kn_bipush_8 ?_
    refine qi_icmp_ge (tgt := 32) hC (by decide) dX1_notes_7 (fun h => ?_) (fun h => ?_)
    · replace hf := qa_if_t h hf
      obtain rfl := Option.some.inj hf
      exact qi_vret hC hQ hK dX1_notes_32
    · replace hf := qa_if_f h hf
      refine qi_iload_n hC 2 rfl rfl dX1_notes_10 ?_
      refine qi_if_lt (tgt := 32) hC (by decide) dX1_notes_11 (fun h => ?_) (fun h => ?_)
      · replace hf := qa_if_t h hf
        obtain rfl := Option.some.inj hf
        exact qi_vret hC hQ hK dX1_notes_32
      · replace hf := qa_if_f h hf
        refine qi_iload_n hC 2 rfl rfl dX1_notes_14 ?_
        refine qi_bipush hC dX1_notes_15 kn_bipush_7 ?_
        refine qi_icmp_ge (tgt := 32) hC (by decide) dX1_notes_17 (fun h => ?_) (fun h => ?_)
        · replace hf := qa_if_t h hf
          obtain rfl := Option.some.inj hf
          exact qi_vret hC hQ hK dX1_notes_32
        · replace hf := qa_if_f h hf
          refine qi_aload_n hC 0 rfl rfl dX1_notes_20 ?_
          refine qi_getr hC kf_X1_9 hi0.1 rfl dX1_notes_21 ?_
          refine qi_iload_n hC 1 rfl rfl dX1_notes_24 ?_
          refine qi_bipush hC dX1_notes_25 kn_bipush_7 ?_
          refine qi_imul hC dX1_notes_27 ?_
          refine qi_iload_n hC 2 rfl rfl dX1_notes_28 ?_
          refine qi_iadd hC dX1_notes_29 ?_
          refine qi_iload_n hC 3 rfl rfl dX1_notes_30 ?_
          obtain ⟨h1, hf⟩ := qa_ck_e hf
          obtain ⟨m2, em2, hf⟩ := qa_lt_e hf
          refine qi_iast hC rfl em2 hi0.2 (qa_in_v h1) dX1_notes_31 ?_
          obtain rfl := Option.some.inj hf
          exact qi_vret hC hQ hK dX1_notes_32
set_option maxRecDepth 100000 in
set_option maxHeartbeats 4000000 in
theorem c_X1_adds (l : Launch) (Y : qaY) {i0 : Nat} (hi0 : qaLin i0) (m : qaM) (v1 : Int32) (v2 : Int32) (v3 : Int32) (q : Int32 × qaM) (hf : f_X1_adds i0 m v1 v2 v3 = some q) : qaMi l Y yX1_adds cX1_adds 5 (some .int) 2 [.ref (Y.2.2.1 i0), .int v1, .int v2, .int v3] m q.2 q.1 := by
  refine qa_enti (by decide +kernel) (Nat.le_of_ble_eq_true rfl) fun X hC hQ => ?_
  have hK : qa_eq q q := rfl
  unfold f_X1_adds at hf
  refine qi_aload_n hC 0 rfl rfl dX1_adds_0 ?_
  refine qi_geti hC kf_X1_15 hi0.1 rfl dX1_adds_1 ?_
  obtain ⟨x1, ex1, hf⟩ := qa_lt_e hf
  refine qi_nmi hC ex1 ?_
  refine qi_istore hC (by decide) rfl dX1_adds_4 ?_
  refine qi_aload_n hC 1 rfl rfl dX1_adds_6 ?_
  refine qi_iload hC 0 rfl dX1_adds_7 ?_
  refine qi_iconst hC dX1_adds_9 kn_iconst_0 ?_
  refine qi_iload_n hC 2 rfl rfl dX1_adds_10 ?_
  obtain ⟨q2, hq2, hf⟩ := Option.bind_eq_some_iff.mp hf
  refine qi_callVv hC (as := [.int x1, .int (0 : Int32), .int v1]) (c_X1_notes _ _ hi0 _ _ _ _ _ hq2) kl_X1_25 hi0.1 kc_X1_notes rfl rfl (by decide) (by decide) (Nat.le_of_ble_eq_true rfl) dX1_adds_11 ?_
  refine qi_aload_n hC 1 rfl rfl dX1_adds_14 ?_
  refine qi_iload hC 0 rfl dX1_adds_15 ?_
  refine qi_iconst hC dX1_adds_17 kn_iconst_1 ?_
  refine qi_iload_n hC 3 rfl rfl dX1_adds_18 ?_
  obtain ⟨q3, hq3, hf⟩ := Option.bind_eq_some_iff.mp hf
  refine qi_callVv hC (as := [.int x1, .int (1 : Int32), .int v2]) (c_X1_notes _ _ hi0 _ _ _ _ _ hq3) kl_X1_25 hi0.1 kc_X1_notes rfl rfl (by decide) (by decide) (Nat.le_of_ble_eq_true rfl) dX1_adds_19 ?_
  refine qi_aload_n hC 1 rfl rfl dX1_adds_22 ?_
  refine qi_iload hC 0 rfl dX1_adds_23 ?_
  refine qi_iconst hC dX1_adds_25 kn_iconst_2 ?_
  refine qi_iload_n hC 4 rfl rfl dX1_adds_26 ?_
  obtain ⟨q4, hq4, hf⟩ := Option.bind_eq_some_iff.mp hf
  refine qi_callVv hC (as := [.int x1, .int (2 : Int32), .int v3]) (c_X1_notes _ _ hi0 _ _ _ _ _ hq4) kl_X1_25 hi0.1 kc_X1_notes rfl rfl (by decide) (by decide) (Nat.le_of_ble_eq_true rfl) dX1_adds_27 ?_
  refine qi_aload_n hC 1 rfl rfl dX1_adds_30 ?_
  refine qi_dup hC rfl dX1_adds_31 ?_
  refine qi_geti hC kf_X1_15 hi0.1 rfl dX1_adds_32 ?_
  refine qi_iconst hC dX1_adds_35 kn_iconst_1 ?_
  refine qi_iadd hC dX1_adds_36 ?_
  obtain ⟨m5, em5, hf⟩ := qa_lt_e hf
  refine qi_puti hC em5 kp_X1_15 hi0.1 rfl rfl rfl dX1_adds_37 ?_
  refine qi_iload hC 0 rfl dX1_adds_40 ?_
  obtain rfl := Option.some.inj hf
  exact qi_ireti hC hQ hK dX1_adds_42
set_option maxRecDepth 100000 in
set_option maxHeartbeats 4000000 in
theorem c_X1_fact (l : Launch) (Y : qaY) {i0 : Nat} (hi0 : qaLin i0) (m : qaM) (v1 : Int32) (v2 : Int32) (q : Int32) (hf : f_X1_fact i0 m v1 v2 = some q) : qaMi l Y yX1_fact cX1_fact 3 (some .int) 1 [.ref (Y.2.2.1 i0), .int v1, .int v2] m m q := by
  refine qa_enti (by decide +kernel) (Nat.le_of_ble_eq_true rfl) fun X hC hQ => ?_
  have hK : qa_eq q q := rfl
  unfold f_X1_fact at hf
  refine qi_iload_n hC 1 rfl rfl dX1_fact_0 ?_
  refine qi_if_lt (tgt := 20) hC (by decide) dX1_fact_1 (fun h => ?_) (fun h => ?_)
  · replace hf := qa_if_t h hf
    refine qi_iconst hC dX1_fact_20 kn_iconst_0 ?_
    obtain rfl := Option.some.inj hf
    exact qi_ireti hC hQ (congrArg (fun w => (w, m)) hK) dX1_fact_21
  · replace hf := qa_if_f h hf
    refine qi_iload_n hC 1 rfl rfl dX1_fact_4 ?_
    refine qi_bipush hC dX1_fact_5 kn_bipush_8 ?_
    refine qi_icmp_ge (tgt := 20) hC (by decide) dX1_fact_7 (fun h => ?_) (fun h => ?_)
    · replace hf := qa_if_t h hf
      refine qi_iconst hC dX1_fact_20 kn_iconst_0 ?_
      obtain rfl := Option.some.inj hf
      exact qi_ireti hC hQ (congrArg (fun w => (w, m)) hK) dX1_fact_21
    · replace hf := qa_if_f h hf
      refine qi_iload_n hC 2 rfl rfl dX1_fact_10 ?_
      refine qi_if_lt (tgt := 20) hC (by decide) dX1_fact_11 (fun h => ?_) (fun h => ?_)
      · replace hf := qa_if_t h hf
        refine qi_iconst hC dX1_fact_20 kn_iconst_0 ?_
        obtain rfl := Option.some.inj hf
        exact qi_ireti hC hQ (congrArg (fun w => (w, m)) hK) dX1_fact_21
      · replace hf := qa_if_f h hf
        refine qi_iload_n hC 2 rfl rfl dX1_fact_14 ?_
        refine qi_bipush hC dX1_fact_15 kn_bipush_7 ?_
        refine qi_icmp_lt (tgt := 22) hC (by decide) dX1_fact_17 (fun h => ?_) (fun h => ?_)
        · replace hf := qa_if_t h hf
          refine qi_aload_n hC 0 rfl rfl dX1_fact_22 ?_
          refine qi_getr hC kf_X1_9 hi0.1 rfl dX1_fact_23 ?_
          refine qi_iload_n hC 1 rfl rfl dX1_fact_26 ?_
          refine qi_bipush hC dX1_fact_27 kn_bipush_7 ?_
          refine qi_imul hC dX1_fact_29 ?_
          refine qi_iload_n hC 2 rfl rfl dX1_fact_30 ?_
          refine qi_iadd hC dX1_fact_31 ?_
          obtain ⟨h1, hf⟩ := qa_ck_e hf
          refine qi_iald hC rfl hi0.2 (qa_in_v h1) dX1_fact_32 ?_
          obtain rfl := Option.some.inj hf
          exact qi_ireti hC hQ (congrArg (fun w => (w, m)) hK) dX1_fact_33
        · replace hf := qa_if_f h hf
          refine qi_iconst hC dX1_fact_20 kn_iconst_0 ?_
          obtain rfl := Option.some.inj hf
          exact qi_ireti hC hQ (congrArg (fun w => (w, m)) hK) dX1_fact_21
set_option maxRecDepth 100000 in
set_option maxHeartbeats 4000000 in
theorem c_X1_lasts (l : Launch) (Y : qaY) {i0 : Nat} (hi0 : qaLin i0) (m : qaM) (v1 : Int32) (q : Int32) (hf : f_X1_lasts i0 m v1 = some q) : qaMi l Y yX1_lasts cX1_lasts 3 (some .int) 2 [.ref (Y.2.2.1 i0), .int v1] m m q := by
  refine qa_enti (by decide +kernel) (Nat.le_of_ble_eq_true rfl) fun X hC hQ => ?_
  have hK : qa_eq q q := rfl
  unfold f_X1_lasts at hf
  refine qi_aload_n hC 0 rfl rfl dX1_lasts_0 ?_
  refine qi_iload_n hC 1 rfl rfl dX1_lasts_1 ?_
  refine qi_iconst hC dX1_lasts_2 kn_iconst_1 ?_
  obtain ⟨q1, hq1, hf⟩ := Option.bind_eq_some_iff.mp hf
  refine qi_callVi hC (as := [.int v1, .int (1 : Int32)]) (c_X1_fact _ _ hi0 _ _ _ _ hq1) kl_X1_29 hi0.1 kc_X1_fact rfl rfl (by decide) (by decide) (Nat.le_of_ble_eq_true rfl) dX1_lasts_3 ?_
  refine qi_istore_n hC rfl (by decide) rfl dX1_lasts_6 ?_
  refine qi_aload_n hC 1 rfl rfl dX1_lasts_7 ?_
  refine qi_iload_n hC 2 rfl rfl dX1_lasts_8 ?_
  refine qi_iconst hC dX1_lasts_9 kn_iconst_0 ?_
  obtain ⟨q2, hq2, hf⟩ := Option.bind_eq_some_iff.mp hf
  refine qi_callVi hC (as := [.int v1, .int (0 : Int32)]) (c_X1_fact _ _ hi0 _ _ _ _ hq2) kl_X1_29 hi0.1 kc_X1_fact rfl rfl (by decide) (by decide) (Nat.le_of_ble_eq_true rfl) dX1_lasts_10 ?_
  by_cases h3 : q2 = (2 : Int32)
  · replace hf := qa_if_t h3 hf
    refine qi_tabIn (tgt := 44) (off := 31) hC dX1_lasts_13 (by rw [h3] <;> decide) (by rw [h3] <;> decide) (by rw [h3] <;> decide) (by decide) ?_
    refine qi_sipush hC dX1_lasts_44 kn_sipush_400 ?_
    refine qi_bipush hC dX1_lasts_47 kn_bipush_20 ?_
    refine qi_iload_n hC 0 rfl rfl dX1_lasts_49 ?_
    refine qi_imul hC dX1_lasts_50 ?_
    refine qi_isub hC dX1_lasts_51 ?_
    obtain rfl := Option.some.inj hf
    exact qi_ireti hC hQ (congrArg (fun w => (w, m)) hK) dX1_lasts_52
  replace hf := qa_if_f h3 hf
  by_cases h4 : q2 = (3 : Int32)
  · replace hf := qa_if_t h4 hf
    refine qi_tabIn (tgt := 53) (off := 40) hC dX1_lasts_13 (by rw [h4] <;> decide) (by rw [h4] <;> decide) (by rw [h4] <;> decide) (by decide) ?_
    refine qi_sipush hC dX1_lasts_53 kn_sipush_400 ?_
    refine qi_bipush hC dX1_lasts_56 kn_bipush_10 ?_
    refine qi_iload_n hC 0 rfl rfl dX1_lasts_58 ?_
    refine qi_imul hC dX1_lasts_59 ?_
    refine qi_iadd hC dX1_lasts_60 ?_
    obtain rfl := Option.some.inj hf
    exact qi_ireti hC hQ (congrArg (fun w => (w, m)) hK) dX1_lasts_61
  replace hf := qa_if_f h4 hf
  by_cases h5 : q2 = (4 : Int32)
  · replace hf := qa_if_t h5 hf
    refine qi_tabIn (tgt := 62) (off := 49) hC dX1_lasts_13 (by rw [h5] <;> decide) (by rw [h5] <;> decide) (by rw [h5] <;> decide) (by decide) ?_
    refine qi_sipush hC dX1_lasts_62 kn_sipush_500 ?_
    refine qi_bipush hC dX1_lasts_65 kn_bipush_20 ?_
    refine qi_iload_n hC 0 rfl rfl dX1_lasts_67 ?_
    refine qi_imul hC dX1_lasts_68 ?_
    refine qi_isub hC dX1_lasts_69 ?_
    obtain rfl := Option.some.inj hf
    exact qi_ireti hC hQ (congrArg (fun w => (w, m)) hK) dX1_lasts_70
  replace hf := qa_if_f h5 hf
  by_cases h6 : q2 = (5 : Int32)
  · replace hf := qa_if_t h6 hf
    refine qi_tabIn (tgt := 71) (off := 58) hC dX1_lasts_13 (by rw [h6] <;> decide) (by rw [h6] <;> decide) (by rw [h6] <;> decide) (by decide) ?_
    refine qi_sipush hC dX1_lasts_71 kn_sipush_150 ?_
    refine qi_bipush hC dX1_lasts_74 kn_bipush_10 ?_
    refine qi_iload_n hC 0 rfl rfl dX1_lasts_76 ?_
    refine qi_imul hC dX1_lasts_77 ?_
    refine qi_iadd hC dX1_lasts_78 ?_
    obtain rfl := Option.some.inj hf
    exact qi_ireti hC hQ (congrArg (fun w => (w, m)) hK) dX1_lasts_79
  replace hf := qa_if_f h6 hf
  refine qi_tabOut (tgt := 80) hC dX1_lasts_13 (by have nh3 := lv_neT (a := 2) h3 (by decide); have nh4 := lv_neT (a := 3) h4 (by decide); have nh5 := lv_neT (a := 4) h5 (by decide); have nh6 := lv_neT (a := 5) h6 (by decide); omega) (by decide) ?_
  refine qi_sipush hC dX1_lasts_80 kn_sipush_400 ?_
  obtain rfl := Option.some.inj hf
  exact qi_ireti hC hQ (congrArg (fun w => (w, m)) hK) dX1_lasts_83
set_option maxRecDepth 100000 in
set_option maxHeartbeats 4000000 in
theorem t_X2_placeOf_2 {X : qaX} {l : Launch} {Y : qaY} {fin : Int32} {m : qaM} {i0 : Nat} (hC : QC X l Y cX2_placeOf RX2 3 2) (hQ : QRi X Y (some .int) m fin) (hi0 : qaPil i0) {v1 : Int32} {v2 : Int32} {z : ((Int32) ⊕ (Int32))} (hf : b_X2_placeOf_2 i0 m v1 v2 = some z) (hK : (qa_K (fun s => QG X Y 3 m 2 [(0, .ref (Y.2.2.1 i0)), (1, .int v1), (2, .int s)] []) (qa_eq fin)) z) : QG X Y 3 m 2 [(0, .ref (Y.2.2.1 i0)), (1, .int v1), (2, .int v2)] [] := by
  unfold b_X2_placeOf_2 at hf
  refine qi_iload_n hC 2 rfl rfl dX2_placeOf_2 ?_
  refine qi_aload_n hC 0 rfl rfl dX2_placeOf_3 ?_
  refine qi_geti hC kf_X2_15 hi0.1 rfl dX2_placeOf_4 ?_
  refine qi_icmp_ge (tgt := 27) hC (by decide) dX2_placeOf_7 (fun h => ?_) (fun h => ?_)
  · replace hf := qa_if_t h hf
    refine qi_iconst hC dX2_placeOf_27 kn_iconst_m1 ?_
    obtain ⟨z, rfl, hg⟩ := qa_inr_e hf; have hf := hg
    obtain rfl := Option.some.inj hf
    exact qi_ireti hC hQ (congrArg (fun w => (w, m)) hK) dX2_placeOf_28
  · replace hf := qa_if_f h hf
    refine qi_aload_n hC 0 rfl rfl dX2_placeOf_10 ?_
    refine qi_iload_n hC 2 rfl rfl dX2_placeOf_11 ?_
    obtain ⟨q1, hq1, hf⟩ := Option.bind_eq_some_iff.mp hf
    refine qi_callVi hC (as := [.int v2]) (c_X2_at _ _ hi0 _ _ _ hq1) kl_X2_25 hi0.1 kc_X2_at rfl rfl (by decide) (by decide) (Nat.le_of_ble_eq_true rfl) dX2_placeOf_12 ?_
    refine qi_iload_n hC 1 rfl rfl dX2_placeOf_15 ?_
    refine qi_icmp_ne (tgt := 21) hC (by decide) dX2_placeOf_16 (fun h => ?_) (fun h => ?_)
    · replace hf := qa_if_f h hf
      obtain ⟨x2, ex2, hf⟩ := qa_lt_e hf
      refine qi_iinc hC (n := 1) (v := x2) 2 rfl ((congrArg (fun q => v2 + q) kn_iconst_1).trans ex2.symm) (by decide) rfl dX2_placeOf_21 ?_
      refine qi_goto (tgt := 2) hC (by decide) dX2_placeOf_24 ?_
      obtain rfl := Option.some.inj hf
      refine qi_sub hC [1, 2, 0] rfl ?_
      exact hK
    · replace hf := qa_if_t h hf
      refine qi_iload_n hC 2 rfl rfl dX2_placeOf_19 ?_
      obtain ⟨z, rfl, hg⟩ := qa_inr_e hf; have hf := hg
      obtain rfl := Option.some.inj hf
      exact qi_ireti hC hQ (congrArg (fun w => (w, m)) hK) dX2_placeOf_20
set_option maxRecDepth 100000 in
set_option maxHeartbeats 4000000 in
theorem tn_X2_placeOf_2 {X : qaX} {l : Launch} {Y : qaY} {fin : Int32} {m : qaM} {i0 : Nat} (hC : QC X l Y cX2_placeOf RX2 3 2) (hQ : QRi X Y (some .int) m fin) (hi0 : qaPil i0) {v1 : Int32} {z : (Int32)} (hK : (qa_eq fin) z) : ∀ (n : Nat) (s : Int32), qa_lp (fun s => b_X2_placeOf_2 i0 m v1 s) n s = some z → QG X Y 3 m 2 [(0, .ref (Y.2.2.1 i0)), (1, .int v1), (2, .int s)] [] := by
  intro n
  induction n with
  | zero => intro s hf; cases hf
  | succ n ih =>
    intro s hf
    obtain ⟨y, hy, hf⟩ := qa_lp_e hf
    refine t_X2_placeOf_2 hC hQ hi0 hy ?_
    rcases hf with ⟨s', rfl, hf⟩ | rfl
    · exact ih s' hf
    · exact hK
set_option maxRecDepth 100000 in
set_option maxHeartbeats 4000000 in
theorem tl_X2_placeOf_2 {X : qaX} {l : Launch} {Y : qaY} {fin : Int32} {m : qaM} {i0 : Nat} (hC : QC X l Y cX2_placeOf RX2 3 2) (hQ : QRi X Y (some .int) m fin) (hi0 : qaPil i0) {v1 : Int32} {v2 : Int32} {z : (Int32)} (hf : lp_X2_placeOf_2 i0 m v1 v2 = some z) (hK : (qa_eq fin) z) : QG X Y 3 m 2 [(0, .ref (Y.2.2.1 i0)), (1, .int v1), (2, .int v2)] [] :=
  tn_X2_placeOf_2 hC hQ hi0 hK qa_F v2 hf
set_option maxRecDepth 100000 in
set_option maxHeartbeats 4000000 in
theorem c_X2_placeOf (l : Launch) (Y : qaY) {i0 : Nat} (hi0 : qaPil i0) (m : qaM) (v1 : Int32) (q : Int32) (hf : f_X2_placeOf i0 m v1 = some q) : qaMi l Y yX2_placeOf cX2_placeOf 3 (some .int) 2 [.ref (Y.2.2.1 i0), .int v1] m m q := by
  refine qa_enti (by decide +kernel) (Nat.le_of_ble_eq_true rfl) fun X hC hQ => ?_
  have hK : qa_eq q q := rfl
  unfold f_X2_placeOf at hf
  refine qi_iconst hC dX2_placeOf_0 kn_iconst_0 ?_
  refine qi_istore_n hC rfl (by decide) rfl dX2_placeOf_1 ?_
  refine qi_sub hC [1, 2, 0] rfl ?_
  exact tl_X2_placeOf_2 hC hQ hi0 hf hK
set_option maxRecDepth 100000 in
set_option maxHeartbeats 4000000 in
theorem c_X2_removesAt (l : Launch) (Y : qaY) {i0 : Nat} (hi0 : qaPil i0) (m : qaM) (v1 : Int32) (q : Int32 × qaM) (hf : f_X2_removesAt i0 m v1 = some q) : qaMi l Y yX2_removesAt cX2_removesAt 3 (some .int) 1 [.ref (Y.2.2.1 i0), .int v1] m q.2 q.1 := by
  refine qa_enti (by decide +kernel) (Nat.le_of_ble_eq_true rfl) fun X hC hQ => ?_
  have hK : qa_eq q q := rfl
  unfold f_X2_removesAt at hf
  refine qi_iload_n hC 1 rfl rfl dX2_removesAt_0 ?_
  refine qi_if_lt (tgt := 21) hC (by decide) dX2_removesAt_1 (fun h => ?_) (fun h => ?_)
  · replace hf := qa_if_t h hf
    refine qi_iconst hC dX2_removesAt_21 kn_iconst_m1 ?_
    obtain rfl := Option.some.inj hf
    exact qi_ireti hC hQ hK dX2_removesAt_22
  · replace hf := qa_if_f h hf
    refine qi_iload_n hC 1 rfl rfl dX2_removesAt_4 ?_
    refine qi_aload_n hC 0 rfl rfl dX2_removesAt_5 ?_
    refine qi_geti hC kf_X2_15 hi0.1 rfl dX2_removesAt_6 ?_
    refine qi_icmp_ge (tgt := 21) hC (by decide) dX2_removesAt_9 (fun h => ?_) (fun h => ?_)
    · replace hf := qa_if_t h hf
      refine qi_iconst hC dX2_removesAt_21 kn_iconst_m1 ?_
      obtain rfl := Option.some.inj hf
      exact qi_ireti hC hQ hK dX2_removesAt_22
    · replace hf := qa_if_f h hf
      refine qi_aload_n hC 0 rfl rfl dX2_removesAt_12 ?_
      refine qi_geti hC kf_X2_15 hi0.1 rfl dX2_removesAt_13 ?_
      refine qi_bipush hC dX2_removesAt_16 kn_bipush_8 ?_
      refine qi_icmp_le (tgt := 23) hC (by decide) dX2_removesAt_18 (fun h => ?_) (fun h => ?_)
      · replace hf := qa_if_t h hf
        refine qi_aload_n hC 0 rfl rfl dX2_removesAt_23 ?_
        refine qi_getr hC kf_X2_9 hi0.1 rfl dX2_removesAt_24 ?_
        refine qi_iload_n hC 1 rfl rfl dX2_removesAt_27 ?_
        obtain ⟨h1, hf⟩ := qa_ck_e hf
        refine qi_iald hC rfl hi0.2 (qa_in_v h1) dX2_removesAt_28 ?_
        obtain ⟨x2, ex2, hf⟩ := qa_lt_e hf
        refine qi_nmi hC ex2 ?_
        refine qi_istore_n hC rfl (by decide) rfl dX2_removesAt_29 ?_
        refine qi_aload_n hC 1 rfl rfl dX2_removesAt_30 ?_
        refine qi_getr hC kf_X2_9 hi0.1 rfl dX2_removesAt_31 ?_
        refine qi_iload_n hC 2 rfl rfl dX2_removesAt_34 ?_
        refine qi_iconst hC dX2_removesAt_35 kn_iconst_1 ?_
        refine qi_iadd hC dX2_removesAt_36 ?_
        refine qi_aload_n hC 1 rfl rfl dX2_removesAt_37 ?_
        refine qi_getr hC kf_X2_9 hi0.1 rfl dX2_removesAt_38 ?_
        refine qi_iload_n hC 2 rfl rfl dX2_removesAt_41 ?_
        refine qi_aload_n hC 1 rfl rfl dX2_removesAt_42 ?_
        refine qi_geti hC kf_X2_15 hi0.1 rfl dX2_removesAt_43 ?_
        refine qi_iload_n hC 2 rfl rfl dX2_removesAt_46 ?_
        refine qi_isub hC dX2_removesAt_47 ?_
        refine qi_iconst hC dX2_removesAt_48 kn_iconst_1 ?_
        refine qi_isub hC dX2_removesAt_49 ?_
        obtain ⟨h4, hf⟩ := qa_ck_e hf
        obtain ⟨m3, em3, hf⟩ := qa_lt_e hf
        obtain ⟨c1, c2, c3, c4, c5⟩ := qa_cpok_e h4
        refine qi_copy hC em3 km_X2_19 ka_nat ka_stat kz_J10 hi0.2 hi0.2 c1 c2 c3 c4 c5 (by decide) (Nat.le_of_ble_eq_true rfl) dX2_removesAt_50 ?_
        refine qi_aload_n hC 1 rfl rfl dX2_removesAt_53 ?_
        refine qi_dup hC rfl dX2_removesAt_54 ?_
        refine qi_geti hC kf_X2_15 hi0.1 rfl dX2_removesAt_55 ?_
        refine qi_iconst hC dX2_removesAt_58 kn_iconst_1 ?_
        refine qi_isub hC dX2_removesAt_59 ?_
        obtain ⟨m5, em5, hf⟩ := qa_lt_e hf
        refine qi_puti hC em5 kp_X2_15 hi0.1 rfl rfl rfl dX2_removesAt_60 ?_
        refine qi_iload_n hC 0 rfl rfl dX2_removesAt_63 ?_
        obtain rfl := Option.some.inj hf
        exact qi_ireti hC hQ hK dX2_removesAt_64
      · replace hf := qa_if_f h hf
        refine qi_iconst hC dX2_removesAt_21 kn_iconst_m1 ?_
        obtain rfl := Option.some.inj hf
        exact qi_ireti hC hQ hK dX2_removesAt_22
set_option maxRecDepth 100000 in
set_option maxHeartbeats 4000000 in
theorem t_X2_turnsUpsideDown_7 {X : qaX} {l : Launch} {Y : qaY} {fin : qaM} {i0 : Nat} (hC : QC X l Y cX2_turnsUpsideDown RX2 3 2) (hQ : QRv X Y fin) (hi0 : qaPil i0) {m : qaM} {v1 : Int32} {v2 : Int32} {z : ((qaM × Int32) ⊕ (qaM))} (hf : b_X2_turnsUpsideDown_7 i0 m v1 v2 = some z) (hK : (qa_K (fun s => QG X Y 3 s.1 7 [(0, .ref (Y.2.2.1 i0)), (1, .int v1), (2, .int s.2)] []) (qa_eq fin)) z) : QG X Y 3 m 7 [(0, .ref (Y.2.2.1 i0)), (1, .int v1), (2, .int v2)] [] := by
  unfold b_X2_turnsUpsideDown_7 at hf
  refine qi_iload_n hC 2 rfl rfl dX2_turnsUpsideDown_7 ?_
  refine qi_iload_n hC 1 rfl rfl dX2_turnsUpsideDown_8 ?_
  refine qi_icmp_ge (tgt := 28) hC (by decide) dX2_turnsUpsideDown_9 (fun h => ?_) (fun h => ?_)
  · replace hf := qa_if_t h hf
    obtain ⟨z, rfl, hg⟩ := qa_inr_e hf; have hf := hg
    obtain rfl := Option.some.inj hf
    exact qi_vret hC hQ hK dX2_turnsUpsideDown_28
  · replace hf := qa_if_f h hf
    refine qi_aload_n hC 0 rfl rfl dX2_turnsUpsideDown_12 ?_
    refine qi_iconst hC dX2_turnsUpsideDown_13 kn_iconst_0 ?_
    refine qi_aload_n hC 0 rfl rfl dX2_turnsUpsideDown_14 ?_
    refine qi_iload_n hC 2 rfl rfl dX2_turnsUpsideDown_15 ?_
    obtain ⟨q2, hq2, hf⟩ := Option.bind_eq_some_iff.mp hf
    refine qi_callVi hC (as := [.int v2]) (c_X2_removesAt _ _ hi0 _ _ _ hq2) kl_X2_29 hi0.1 kc_X2_removesAt rfl rfl (by decide) (by decide) (Nat.le_of_ble_eq_true rfl) dX2_turnsUpsideDown_16 ?_
    obtain ⟨q3, hq3, hf⟩ := Option.bind_eq_some_iff.mp hf
    refine qi_callVv hC (as := [.int (0 : Int32), .int q2.1]) (c_X2_insertsAt _ _ hi0 _ _ _ _ hq3) kl_X2_32 hi0.1 kc_X2_insertsAt rfl rfl (by decide) (by decide) (Nat.le_of_ble_eq_true rfl) dX2_turnsUpsideDown_19 ?_
    obtain ⟨x4, ex4, hf⟩ := qa_lt_e hf
    refine qi_iinc hC (n := 1) (v := x4) 2 rfl ((congrArg (fun q => v2 + q) kn_iconst_1).trans ex4.symm) (by decide) rfl dX2_turnsUpsideDown_22 ?_
    refine qi_goto (tgt := 7) hC (by decide) dX2_turnsUpsideDown_25 ?_
    obtain rfl := Option.some.inj hf
    refine qi_sub hC [1, 2, 0] rfl ?_
    exact hK
set_option maxRecDepth 100000 in
set_option maxHeartbeats 4000000 in
theorem tn_X2_turnsUpsideDown_7 {X : qaX} {l : Launch} {Y : qaY} {fin : qaM} {i0 : Nat} (hC : QC X l Y cX2_turnsUpsideDown RX2 3 2) (hQ : QRv X Y fin) (hi0 : qaPil i0) {v1 : Int32} {z : (qaM)} (hK : (qa_eq fin) z) : ∀ (n : Nat) (s : qaM × Int32), qa_lp (fun s => b_X2_turnsUpsideDown_7 i0 s.1 v1 s.2) n s = some z → QG X Y 3 s.1 7 [(0, .ref (Y.2.2.1 i0)), (1, .int v1), (2, .int s.2)] [] := by
  intro n
  induction n with
  | zero => intro s hf; cases hf
  | succ n ih =>
    intro s hf
    obtain ⟨y, hy, hf⟩ := qa_lp_e hf
    refine t_X2_turnsUpsideDown_7 hC hQ hi0 hy ?_
    rcases hf with ⟨s', rfl, hf⟩ | rfl
    · exact ih s' hf
    · exact hK
set_option maxRecDepth 100000 in
set_option maxHeartbeats 4000000 in
theorem tl_X2_turnsUpsideDown_7 {X : qaX} {l : Launch} {Y : qaY} {fin : qaM} {i0 : Nat} (hC : QC X l Y cX2_turnsUpsideDown RX2 3 2) (hQ : QRv X Y fin) (hi0 : qaPil i0) {m : qaM} {v1 : Int32} {v2 : Int32} {z : (qaM)} (hf : lp_X2_turnsUpsideDown_7 i0 m v1 v2 = some z) (hK : (qa_eq fin) z) : QG X Y 3 m 7 [(0, .ref (Y.2.2.1 i0)), (1, .int v1), (2, .int v2)] [] :=
  tn_X2_turnsUpsideDown_7 hC hQ hi0 hK qa_F (m, v2) hf
set_option maxRecDepth 100000 in
set_option maxHeartbeats 4000000 in
theorem c_X2_turnsUpsideDown (l : Launch) (Y : qaY) {i0 : Nat} (hi0 : qaPil i0) (m : qaM) (q : qaM) (hf : f_X2_turnsUpsideDown i0 m = some q) : qaMv l Y yX2_turnsUpsideDown cX2_turnsUpsideDown 3 2 [.ref (Y.2.2.1 i0)] m q := by
  refine qa_entv (by decide +kernel) (Nat.le_of_ble_eq_true rfl) fun X hC hQ => ?_
  have hK : qa_eq q q := rfl
  unfold f_X2_turnsUpsideDown at hf
  refine qi_aload_n hC 0 rfl rfl dX2_turnsUpsideDown_0 ?_
  refine qi_geti hC kf_X2_15 hi0.1 rfl dX2_turnsUpsideDown_1 ?_
  obtain ⟨x1, ex1, hf⟩ := qa_lt_e hf
  refine qi_nmi hC ex1 ?_
  refine qi_istore_n hC rfl (by decide) rfl dX2_turnsUpsideDown_4 ?_
  refine qi_iconst hC dX2_turnsUpsideDown_5 kn_iconst_0 ?_
  refine qi_istore_n hC rfl (by decide) rfl dX2_turnsUpsideDown_6 ?_
  refine qi_sub hC [2, 1, 0] rfl ?_
  exact tl_X2_turnsUpsideDown_7 hC hQ hi0 hf hK
set_option maxRecDepth 100000 in
set_option maxHeartbeats 4000000 in
theorem t_X1_wearsBy_68 {X : qaX} {l : Launch} {Y : qaY} {fin : Int32} {m : qaM} {i0 : Nat} (hC : QC X l Y cX1_wearsBy RX1 5 2) (hQ : QRi X Y (some .int) m fin) (hi0 : qaLin i0) {v2 : Int32} {v3 : Int32} {z : (Int32)} (hf : b_X1_wearsBy_68 i0 m v2 v3 = some z) (hK : (qa_eq fin) z) : QG X Y 5 m 68 [(2, .int v2), (3, .int v3)] [] := by
  unfold b_X1_wearsBy_68 at hf
  refine qi_iconst hC dX1_wearsBy_68 kn_iconst_0 ?_
  refine qi_iload_n hC 0 rfl rfl dX1_wearsBy_69 ?_
  refine qi_iload_n hC 1 rfl rfl dX1_wearsBy_70 ?_
  refine qi_iconst hC dX1_wearsBy_71 kn_iconst_2 ?_
  refine qi_idiv hC (by decide) dX1_wearsBy_72 ?_
  refine qi_isub hC dX1_wearsBy_73 ?_
  refine qi_mmax hC km_X1_37 ka_maxs kz_J9 ka_maxc (by decide) (Nat.le_of_ble_eq_true rfl) dX1_wearsBy_74 ?_
  obtain rfl := Option.some.inj hf
  exact qi_ireti hC hQ (congrArg (fun w => (w, m)) hK) dX1_wearsBy_77
set_option maxRecDepth 100000 in
set_option maxHeartbeats 4000000 in
theorem t_X1_wearsBy_24 {X : qaX} {l : Launch} {Y : qaY} {fin : Int32} {m : qaM} {i0 : Nat} (hC : QC X l Y cX1_wearsBy RX1 5 2) (hQ : QRi X Y (some .int) m fin) (hi0 : qaLin i0) {v1 : Int32} {v2 : Int32} {v3 : Int32} {s0 : Int32} {z : (Int32)} (hf : b_X1_wearsBy_24 i0 m v1 v2 v3 s0 = some z) (hK : (qa_eq fin) z) : QG X Y 5 m 24 [(0, .ref (Y.2.2.1 i0)), (1, .int v1), (2, .int v2), (3, .int v3)] [.int s0] := by
  unfold b_X1_wearsBy_24 at hf
  refine qi_istore hC (by decide) rfl dX1_wearsBy_24 ?_
  refine qi_aload_n hC 1 rfl rfl dX1_wearsBy_26 ?_
  refine qi_iload_n hC 2 rfl rfl dX1_wearsBy_27 ?_
  refine qi_iconst hC dX1_wearsBy_28 kn_iconst_0 ?_
  obtain ⟨q3, hq3, hf⟩ := Option.bind_eq_some_iff.mp hf
  refine qi_callVi hC (as := [.int v1, .int (0 : Int32)]) (c_X1_fact _ _ hi0 _ _ _ _ hq3) kl_X1_29 hi0.1 kc_X1_fact rfl rfl (by decide) (by decide) (Nat.le_of_ble_eq_true rfl) dX1_wearsBy_29 ?_
  by_cases h4 : q3 = (1 : Int32)
  · replace hf := qa_if_t h4 hf
    refine qi_tabIn (tgt := 68) (off := 36) hC dX1_wearsBy_32 (by rw [h4] <;> decide) (by rw [h4] <;> decide) (by rw [h4] <;> decide) (by decide) ?_
    refine qi_sub hC [3, 4] rfl ?_
    exact t_X1_wearsBy_68 hC hQ hi0 hf hK
  replace hf := qa_if_f h4 hf
  by_cases h5 : q3 = (2 : Int32)
  · replace hf := qa_if_t h5 hf
    refine qi_tabIn (tgt := 78) (off := 46) hC dX1_wearsBy_32 (by rw [h5] <;> decide) (by rw [h5] <;> decide) (by rw [h5] <;> decide) (by decide) ?_
    refine qi_iload_n hC 3 rfl rfl dX1_wearsBy_78 ?_
    refine qi_iload hC 0 rfl dX1_wearsBy_79 ?_
    refine qi_iadd hC dX1_wearsBy_81 ?_
    obtain rfl := Option.some.inj hf
    exact qi_ireti hC hQ (congrArg (fun w => (w, m)) hK) dX1_wearsBy_82
  replace hf := qa_if_f h5 hf
  by_cases h6 : q3 = (3 : Int32)
  · replace hf := qa_if_t h6 hf
    refine qi_tabIn (tgt := 68) (off := 36) hC dX1_wearsBy_32 (by rw [h6] <;> decide) (by rw [h6] <;> decide) (by rw [h6] <;> decide) (by decide) ?_
    refine qi_sub hC [3, 4] rfl ?_
    exact t_X1_wearsBy_68 hC hQ hi0 hf hK
  replace hf := qa_if_f h6 hf
  by_cases h7 : q3 = (4 : Int32)
  · replace hf := qa_if_t h7 hf
    refine qi_tabIn (tgt := 83) (off := 51) hC dX1_wearsBy_32 (by rw [h7] <;> decide) (by rw [h7] <;> decide) (by rw [h7] <;> decide) (by decide) ?_
    refine qi_iload_n hC 3 rfl rfl dX1_wearsBy_83 ?_
    refine qi_iload hC 0 rfl dX1_wearsBy_84 ?_
    refine qi_iadd hC dX1_wearsBy_86 ?_
    refine qi_iconst hC dX1_wearsBy_87 kn_iconst_2 ?_
    refine qi_iadd hC dX1_wearsBy_88 ?_
    obtain rfl := Option.some.inj hf
    exact qi_ireti hC hQ (congrArg (fun w => (w, m)) hK) dX1_wearsBy_89
  replace hf := qa_if_f h7 hf
  by_cases h8 : q3 = (5 : Int32)
  · replace hf := qa_if_t h8 hf
    refine qi_tabIn (tgt := 90) (off := 58) hC dX1_wearsBy_32 (by rw [h8] <;> decide) (by rw [h8] <;> decide) (by rw [h8] <;> decide) (by decide) ?_
    refine qi_iload_n hC 3 rfl rfl dX1_wearsBy_90 ?_
    refine qi_iconst hC dX1_wearsBy_91 kn_iconst_2 ?_
    refine qi_idiv hC (by decide) dX1_wearsBy_92 ?_
    obtain rfl := Option.some.inj hf
    exact qi_ireti hC hQ (congrArg (fun w => (w, m)) hK) dX1_wearsBy_93
  replace hf := qa_if_f h8 hf
  refine qi_tabOut (tgt := 94) hC dX1_wearsBy_32 (by have nh4 := lv_neT (a := 1) h4 (by decide); have nh5 := lv_neT (a := 2) h5 (by decide); have nh6 := lv_neT (a := 3) h6 (by decide); have nh7 := lv_neT (a := 4) h7 (by decide); have nh8 := lv_neT (a := 5) h8 (by decide); omega) (by decide) ?_
  refine qi_iload_n hC 3 rfl rfl dX1_wearsBy_94 ?_
  obtain rfl := Option.some.inj hf
  exact qi_ireti hC hQ (congrArg (fun w => (w, m)) hK) dX1_wearsBy_95
set_option maxRecDepth 100000 in
set_option maxHeartbeats 4000000 in
theorem c_X1_wearsBy (l : Launch) (Y : qaY) {i0 : Nat} (hi0 : qaLin i0) (m : qaM) (v1 : Int32) (v2 : Int32) (q : Int32) (hf : f_X1_wearsBy i0 m v1 v2 = some q) : qaMi l Y yX1_wearsBy cX1_wearsBy 5 (some .int) 2 [.ref (Y.2.2.1 i0), .int v1, .int v2] m m q := by
  refine qa_enti (by decide +kernel) (Nat.le_of_ble_eq_true rfl) fun X hC hQ => ?_
  have hK : qa_eq q q := rfl
  unfold f_X1_wearsBy at hf
  refine qi_aload_n hC 0 rfl rfl dX1_wearsBy_0 ?_
  refine qi_iload_n hC 1 rfl rfl dX1_wearsBy_1 ?_
  refine qi_iconst hC dX1_wearsBy_2 kn_iconst_1 ?_
  obtain ⟨q1, hq1, hf⟩ := Option.bind_eq_some_iff.mp hf
  refine qi_callVi hC (as := [.int v1, .int (1 : Int32)]) (c_X1_fact _ _ hi0 _ _ _ _ hq1) kl_X1_29 hi0.1 kc_X1_fact rfl rfl (by decide) (by decide) (Nat.le_of_ble_eq_true rfl) dX1_wearsBy_3 ?_
  refine qi_istore_n hC rfl (by decide) rfl dX1_wearsBy_6 ?_
  refine qi_aload_n hC 1 rfl rfl dX1_wearsBy_7 ?_
  refine qi_iload_n hC 2 rfl rfl dX1_wearsBy_8 ?_
  refine qi_iconst hC dX1_wearsBy_9 kn_iconst_2 ?_
  obtain ⟨q2, hq2, hf⟩ := Option.bind_eq_some_iff.mp hf
  refine qi_callVi hC (as := [.int v1, .int (2 : Int32)]) (c_X1_fact _ _ hi0 _ _ _ _ hq2) kl_X1_29 hi0.1 kc_X1_fact rfl rfl (by decide) (by decide) (Nat.le_of_ble_eq_true rfl) dX1_wearsBy_10 ?_
  refine qi_sipush hC dX1_wearsBy_13 kn_sipush_200 ?_
  refine qi_icmp_le (tgt := 23) hC (by decide) dX1_wearsBy_16 (fun h => ?_) (fun h => ?_)
  · replace hf := qa_if_t h hf
    refine qi_iconst hC dX1_wearsBy_23 kn_iconst_0 ?_
    refine qi_sub hC [1, 2, 3, 0] rfl ?_
    exact t_X1_wearsBy_24 hC hQ hi0 hf hK
  · replace hf := qa_if_f h hf
    refine qi_iload_n hC 0 rfl rfl dX1_wearsBy_19 ?_
    refine qi_goto (tgt := 24) hC (by decide) dX1_wearsBy_20 ?_
    refine qi_sub hC [1, 2, 3, 0] rfl ?_
    exact t_X1_wearsBy_24 hC hQ hi0 hf hK
set_option maxRecDepth 100000 in
set_option maxHeartbeats 4000000 in
theorem c_X1_yellowsBy (l : Launch) (Y : qaY) {i0 : Nat} (hi0 : qaLin i0) (m : qaM) (v1 : Int32) (v2 : Int32) (q : Int32) (hf : f_X1_yellowsBy i0 m v1 v2 = some q) : qaMi l Y yX1_yellowsBy cX1_yellowsBy 3 (some .int) 2 [.ref (Y.2.2.1 i0), .int v1, .int v2] m m q := by
  refine qa_enti (by decide +kernel) (Nat.le_of_ble_eq_true rfl) fun X hC hQ => ?_
  have hK : qa_eq q q := rfl
  unfold f_X1_yellowsBy at hf
  refine qi_aload_n hC 0 rfl rfl dX1_yellowsBy_0 ?_
  refine qi_iload_n hC 1 rfl rfl dX1_yellowsBy_1 ?_
  refine qi_iconst hC dX1_yellowsBy_2 kn_iconst_0 ?_
  obtain ⟨q1, hq1, hf⟩ := Option.bind_eq_some_iff.mp hf
  refine qi_callVi hC (as := [.int v1, .int (0 : Int32)]) (c_X1_fact _ _ hi0 _ _ _ _ hq1) kl_X1_29 hi0.1 kc_X1_fact rfl rfl (by decide) (by decide) (Nat.le_of_ble_eq_true rfl) dX1_yellowsBy_3 ?_
  by_cases h2 : q1 = (1 : Int32)
  · replace hf := qa_if_t h2 hf
    refine qi_lookup (tgt := 32) (off := 26) hC dX1_yellowsBy_6 (by decide) (by rw [h2] <;> decide) (by decide) ?_
    refine qi_iload_n hC 2 rfl rfl dX1_yellowsBy_32 ?_
    refine qi_iconst hC dX1_yellowsBy_33 kn_iconst_1 ?_
    refine qi_iadd hC dX1_yellowsBy_34 ?_
    obtain rfl := Option.some.inj hf
    exact qi_ireti hC hQ (congrArg (fun w => (w, m)) hK) dX1_yellowsBy_35
  replace hf := qa_if_f h2 hf
  by_cases h3 : q1 = (3 : Int32)
  · replace hf := qa_if_t h3 hf
    refine qi_lookup (tgt := 36) (off := 30) hC dX1_yellowsBy_6 (by decide) (by rw [h3] <;> decide) (by decide) ?_
    refine qi_aload_n hC 0 rfl rfl dX1_yellowsBy_36 ?_
    refine qi_iload_n hC 1 rfl rfl dX1_yellowsBy_37 ?_
    refine qi_iconst hC dX1_yellowsBy_38 kn_iconst_4 ?_
    obtain ⟨q4, hq4, hf⟩ := Option.bind_eq_some_iff.mp hf
    refine qi_callVi hC (as := [.int v1, .int (4 : Int32)]) (c_X1_fact _ _ hi0 _ _ _ _ hq4) kl_X1_29 hi0.1 kc_X1_fact rfl rfl (by decide) (by decide) (Nat.le_of_ble_eq_true rfl) dX1_yellowsBy_39 ?_
    refine qi_bipush hC dX1_yellowsBy_42 kn_bipush_10 ?_
    refine qi_icmp_le (tgt := 55) hC (by decide) dX1_yellowsBy_44 (fun h => ?_) (fun h => ?_)
    · replace hf := qa_if_t h hf
      refine qi_iload_n hC 2 rfl rfl dX1_yellowsBy_55 ?_
      refine qi_iconst hC dX1_yellowsBy_56 kn_iconst_1 ?_
      refine qi_iadd hC dX1_yellowsBy_57 ?_
      obtain rfl := Option.some.inj hf
      exact qi_ireti hC hQ (congrArg (fun w => (w, m)) hK) dX1_yellowsBy_58
    · replace hf := qa_if_f h hf
      refine qi_iconst hC dX1_yellowsBy_47 kn_iconst_2 ?_
      refine qi_iload_n hC 2 rfl rfl dX1_yellowsBy_48 ?_
      refine qi_iconst hC dX1_yellowsBy_49 kn_iconst_1 ?_
      refine qi_iadd hC dX1_yellowsBy_50 ?_
      refine qi_imul hC dX1_yellowsBy_51 ?_
      refine qi_goto (tgt := 58) hC (by decide) dX1_yellowsBy_52 ?_
      obtain rfl := Option.some.inj hf
      exact qi_ireti hC hQ (congrArg (fun w => (w, m)) hK) dX1_yellowsBy_58
  replace hf := qa_if_f h3 hf
  refine qi_lookup (tgt := 59) (off := 53) hC dX1_yellowsBy_6 (by decide) ((lv_osw h2 (by decide)).trans ((lv_osw h3 (by decide)).trans rfl)) (by decide) ?_
  refine qi_iload_n hC 2 rfl rfl dX1_yellowsBy_59 ?_
  obtain rfl := Option.some.inj hf
  exact qi_ireti hC hQ (congrArg (fun w => (w, m)) hK) dX1_yellowsBy_60
set_option maxRecDepth 100000 in
set_option maxHeartbeats 4000000 in
theorem c_X1_isCloths (l : Launch) (Y : qaY) {i0 : Nat} (hi0 : qaLin i0) (m : qaM) (v1 : Int32) (q : Int32) (hf : f_X1_isCloths i0 m v1 = some q) : qaMi l Y yX1_isCloths cX1_isCloths 2 (some .boolean) 2 [.ref (Y.2.2.1 i0), .int v1] m m q := by
  refine qa_enti (by decide +kernel) (Nat.le_of_ble_eq_true rfl) fun X hC hQ => ?_
  have hK : qa_eq q q := rfl
  unfold f_X1_isCloths at hf
  refine qi_aload_n hC 0 rfl rfl dX1_isCloths_0 ?_
  refine qi_iload_n hC 1 rfl rfl dX1_isCloths_1 ?_
  refine qi_bipush hC dX1_isCloths_2 kn_bipush_6 ?_
  obtain ⟨q1, hq1, hf⟩ := Option.bind_eq_some_iff.mp hf
  refine qi_callVi hC (as := [.int v1, .int (6 : Int32)]) (c_X1_fact _ _ hi0 _ _ _ _ hq1) kl_X1_29 hi0.1 kc_X1_fact rfl rfl (by decide) (by decide) (Nat.le_of_ble_eq_true rfl) dX1_isCloths_4 ?_
  refine qi_iconst hC dX1_isCloths_7 kn_iconst_m1 ?_
  refine qi_icmp_ne (tgt := 15) hC (by decide) dX1_isCloths_8 (fun h => ?_) (fun h => ?_)
  · replace hf := qa_if_f h hf
    refine qi_iconst hC dX1_isCloths_15 kn_iconst_0 ?_
    obtain rfl := Option.some.inj hf
    exact qi_iretz hC hQ (congrArg (fun w => (w, m)) hK) rfl dX1_isCloths_16
  · replace hf := qa_if_t h hf
    refine qi_iconst hC dX1_isCloths_11 kn_iconst_1 ?_
    refine qi_goto (tgt := 16) hC (by decide) dX1_isCloths_12 ?_
    obtain rfl := Option.some.inj hf
    exact qi_iretz hC hQ (congrArg (fun w => (w, m)) hK) rfl dX1_isCloths_16
set_option maxRecDepth 100000 in
set_option maxHeartbeats 4000000 in
theorem t_X1_left_26 {X : qaX} {l : Launch} {Y : qaY} {fin : Int32} {m : qaM} {i0 : Nat} (hC : QC X l Y cX1_left RX1 3 3) (hQ : QRi X Y (some .int) m fin) (hi0 : qaLin i0) {v2 : Int32} {s0 : Int32} {s1 : Int32} {z : ((Int32 × Int32) ⊕ (Int32))} (hf : b_X1_left_26 i0 m v2 s0 s1 = some z) (hK : (qa_K (fun s => QG X Y 3 m 4 [(0, .ref (Y.2.2.1 i0)), (1, .int s.1), (2, .int s.2)] []) (qa_eq fin)) z) : QG X Y 3 m 26 [(0, .ref (Y.2.2.1 i0)), (2, .int v2)] [.int s1, .int s0] := by
  unfold b_X1_left_26 at hf
  refine qi_iadd hC dX1_left_26 ?_
  obtain ⟨x2, ex2, hf⟩ := qa_lt_e hf
  refine qi_nmi hC ex2 ?_
  refine qi_istore_n hC rfl (by decide) rfl dX1_left_27 ?_
  obtain ⟨x3, ex3, hf⟩ := qa_lt_e hf
  refine qi_iinc hC (n := 1) (v := x3) 2 rfl ((congrArg (fun q => v2 + q) kn_iconst_1).trans ex3.symm) (by decide) rfl dX1_left_28 ?_
  refine qi_goto (tgt := 4) hC (by decide) dX1_left_31 ?_
  obtain rfl := Option.some.inj hf
  refine qi_sub hC [2, 1, 0] rfl ?_
  exact hK
set_option maxRecDepth 100000 in
set_option maxHeartbeats 4000000 in
theorem t_X1_left_4 {X : qaX} {l : Launch} {Y : qaY} {fin : Int32} {m : qaM} {i0 : Nat} (hC : QC X l Y cX1_left RX1 3 3) (hQ : QRi X Y (some .int) m fin) (hi0 : qaLin i0) {v1 : Int32} {v2 : Int32} {z : ((Int32 × Int32) ⊕ (Int32))} (hf : b_X1_left_4 i0 m v1 v2 = some z) (hK : (qa_K (fun s => QG X Y 3 m 4 [(0, .ref (Y.2.2.1 i0)), (1, .int s.1), (2, .int s.2)] []) (qa_eq fin)) z) : QG X Y 3 m 4 [(0, .ref (Y.2.2.1 i0)), (1, .int v1), (2, .int v2)] [] := by
  unfold b_X1_left_4 at hf
  refine qi_iload_n hC 2 rfl rfl dX1_left_4 ?_
  refine qi_aload_n hC 0 rfl rfl dX1_left_5 ?_
  refine qi_geti hC kf_X1_15 hi0.1 rfl dX1_left_6 ?_
  refine qi_icmp_ge (tgt := 34) hC (by decide) dX1_left_9 (fun h => ?_) (fun h => ?_)
  · replace hf := qa_if_t h hf
    refine qi_iload_n hC 1 rfl rfl dX1_left_34 ?_
    obtain ⟨z, rfl, hg⟩ := qa_inr_e hf; have hf := hg
    obtain rfl := Option.some.inj hf
    exact qi_ireti hC hQ (congrArg (fun w => (w, m)) hK) dX1_left_35
  · replace hf := qa_if_f h hf
    refine qi_iload_n hC 1 rfl rfl dX1_left_12 ?_
    refine qi_aload_n hC 0 rfl rfl dX1_left_13 ?_
    refine qi_iload_n hC 2 rfl rfl dX1_left_14 ?_
    obtain ⟨q1, hq1, hf⟩ := Option.bind_eq_some_iff.mp hf
    refine qi_callVi hC (as := [.int v2]) (c_X1_isCloths _ _ hi0 _ _ _ hq1) kl_X1_33 hi0.1 kc_X1_isCloths rfl rfl (by decide) (by decide) (Nat.le_of_ble_eq_true rfl) dX1_left_15 ?_
    refine qi_if_eq (tgt := 25) hC (by decide) dX1_left_18 (fun h => ?_) (fun h => ?_)
    · replace hf := qa_if_t h hf
      refine qi_iconst hC dX1_left_25 kn_iconst_1 ?_
      refine qi_sub hC [0, 2] rfl ?_
      exact t_X1_left_26 hC hQ hi0 hf hK
    · replace hf := qa_if_f h hf
      refine qi_iconst hC dX1_left_21 kn_iconst_0 ?_
      refine qi_goto (tgt := 26) hC (by decide) dX1_left_22 ?_
      refine qi_sub hC [0, 2] rfl ?_
      exact t_X1_left_26 hC hQ hi0 hf hK
set_option maxRecDepth 100000 in
set_option maxHeartbeats 4000000 in
theorem tn_X1_left_4 {X : qaX} {l : Launch} {Y : qaY} {fin : Int32} {m : qaM} {i0 : Nat} (hC : QC X l Y cX1_left RX1 3 3) (hQ : QRi X Y (some .int) m fin) (hi0 : qaLin i0) {z : (Int32)} (hK : (qa_eq fin) z) : ∀ (n : Nat) (s : Int32 × Int32), qa_lp (fun s => b_X1_left_4 i0 m s.1 s.2) n s = some z → QG X Y 3 m 4 [(0, .ref (Y.2.2.1 i0)), (1, .int s.1), (2, .int s.2)] [] := by
  intro n
  induction n with
  | zero => intro s hf; cases hf
  | succ n ih =>
    intro s hf
    obtain ⟨y, hy, hf⟩ := qa_lp_e hf
    refine t_X1_left_4 hC hQ hi0 hy ?_
    rcases hf with ⟨s', rfl, hf⟩ | rfl
    · exact ih s' hf
    · exact hK
set_option maxRecDepth 100000 in
set_option maxHeartbeats 4000000 in
theorem tl_X1_left_4 {X : qaX} {l : Launch} {Y : qaY} {fin : Int32} {m : qaM} {i0 : Nat} (hC : QC X l Y cX1_left RX1 3 3) (hQ : QRi X Y (some .int) m fin) (hi0 : qaLin i0) {v1 : Int32} {v2 : Int32} {z : (Int32)} (hf : lp_X1_left_4 i0 m v1 v2 = some z) (hK : (qa_eq fin) z) : QG X Y 3 m 4 [(0, .ref (Y.2.2.1 i0)), (1, .int v1), (2, .int v2)] [] :=
  tn_X1_left_4 hC hQ hi0 hK qa_F (v1, v2) hf
set_option maxRecDepth 100000 in
set_option maxHeartbeats 4000000 in
theorem c_X1_left (l : Launch) (Y : qaY) {i0 : Nat} (hi0 : qaLin i0) (m : qaM) (q : Int32) (hf : f_X1_left i0 m = some q) : qaMi l Y yX1_left cX1_left 3 (some .int) 3 [.ref (Y.2.2.1 i0)] m m q := by
  refine qa_enti (by decide +kernel) (Nat.le_of_ble_eq_true rfl) fun X hC hQ => ?_
  have hK : qa_eq q q := rfl
  unfold f_X1_left at hf
  refine qi_iconst hC dX1_left_0 kn_iconst_0 ?_
  refine qi_istore_n hC rfl (by decide) rfl dX1_left_1 ?_
  refine qi_iconst hC dX1_left_2 kn_iconst_0 ?_
  refine qi_istore_n hC rfl (by decide) rfl dX1_left_3 ?_
  refine qi_sub hC [2, 1, 0] rfl ?_
  exact tl_X1_left_4 hC hQ hi0 hf hK
set_option maxRecDepth 100000 in
set_option maxHeartbeats 4000000 in
theorem t_X1_mostWorn_4 {X : qaX} {l : Launch} {Y : qaY} {fin : Int32} {m : qaM} {i0 : Nat} (hC : QC X l Y cX1_mostWorn RX1 3 2) (hQ : QRi X Y (some .int) m fin) (hi0 : qaLin i0) {v1 : Int32} {v2 : Int32} {z : ((Int32 × Int32) ⊕ (Int32))} (hf : b_X1_mostWorn_4 i0 m v1 v2 = some z) (hK : (qa_K (fun s => QG X Y 3 m 4 [(0, .ref (Y.2.2.1 i0)), (1, .int s.1), (2, .int s.2)] []) (qa_eq fin)) z) : QG X Y 3 m 4 [(0, .ref (Y.2.2.1 i0)), (1, .int v1), (2, .int v2)] [] := by
  unfold b_X1_mostWorn_4 at hf
  refine qi_iload_n hC 2 rfl rfl dX1_mostWorn_4 ?_
  refine qi_aload_n hC 0 rfl rfl dX1_mostWorn_5 ?_
  refine qi_geti hC kf_X1_15 hi0.1 rfl dX1_mostWorn_6 ?_
  refine qi_icmp_ge (tgt := 29) hC (by decide) dX1_mostWorn_9 (fun h => ?_) (fun h => ?_)
  · replace hf := qa_if_t h hf
    refine qi_iload_n hC 1 rfl rfl dX1_mostWorn_29 ?_
    obtain ⟨z, rfl, hg⟩ := qa_inr_e hf; have hf := hg
    obtain rfl := Option.some.inj hf
    exact qi_ireti hC hQ (congrArg (fun w => (w, m)) hK) dX1_mostWorn_30
  · replace hf := qa_if_f h hf
    refine qi_iload_n hC 1 rfl rfl dX1_mostWorn_12 ?_
    refine qi_aload_n hC 0 rfl rfl dX1_mostWorn_13 ?_
    refine qi_iload_n hC 2 rfl rfl dX1_mostWorn_14 ?_
    refine qi_iconst hC dX1_mostWorn_15 kn_iconst_2 ?_
    obtain ⟨q1, hq1, hf⟩ := Option.bind_eq_some_iff.mp hf
    refine qi_callVi hC (as := [.int v2, .int (2 : Int32)]) (c_X1_fact _ _ hi0 _ _ _ _ hq1) kl_X1_29 hi0.1 kc_X1_fact rfl rfl (by decide) (by decide) (Nat.le_of_ble_eq_true rfl) dX1_mostWorn_16 ?_
    refine qi_mmax hC km_X1_37 ka_maxs kz_J9 ka_maxc (by decide) (Nat.le_of_ble_eq_true rfl) dX1_mostWorn_19 ?_
    obtain ⟨x2, ex2, hf⟩ := qa_lt_e hf
    refine qi_nmi hC ex2 ?_
    refine qi_istore_n hC rfl (by decide) rfl dX1_mostWorn_22 ?_
    obtain ⟨x3, ex3, hf⟩ := qa_lt_e hf
    refine qi_iinc hC (n := 1) (v := x3) 2 rfl ((congrArg (fun q => v2 + q) kn_iconst_1).trans ex3.symm) (by decide) rfl dX1_mostWorn_23 ?_
    refine qi_goto (tgt := 4) hC (by decide) dX1_mostWorn_26 ?_
    obtain rfl := Option.some.inj hf
    refine qi_sub hC [2, 1, 0] rfl ?_
    exact hK
set_option maxRecDepth 100000 in
set_option maxHeartbeats 4000000 in
theorem tn_X1_mostWorn_4 {X : qaX} {l : Launch} {Y : qaY} {fin : Int32} {m : qaM} {i0 : Nat} (hC : QC X l Y cX1_mostWorn RX1 3 2) (hQ : QRi X Y (some .int) m fin) (hi0 : qaLin i0) {z : (Int32)} (hK : (qa_eq fin) z) : ∀ (n : Nat) (s : Int32 × Int32), qa_lp (fun s => b_X1_mostWorn_4 i0 m s.1 s.2) n s = some z → QG X Y 3 m 4 [(0, .ref (Y.2.2.1 i0)), (1, .int s.1), (2, .int s.2)] [] := by
  intro n
  induction n with
  | zero => intro s hf; cases hf
  | succ n ih =>
    intro s hf
    obtain ⟨y, hy, hf⟩ := qa_lp_e hf
    refine t_X1_mostWorn_4 hC hQ hi0 hy ?_
    rcases hf with ⟨s', rfl, hf⟩ | rfl
    · exact ih s' hf
    · exact hK
set_option maxRecDepth 100000 in
set_option maxHeartbeats 4000000 in
theorem tl_X1_mostWorn_4 {X : qaX} {l : Launch} {Y : qaY} {fin : Int32} {m : qaM} {i0 : Nat} (hC : QC X l Y cX1_mostWorn RX1 3 2) (hQ : QRi X Y (some .int) m fin) (hi0 : qaLin i0) {v1 : Int32} {v2 : Int32} {z : (Int32)} (hf : lp_X1_mostWorn_4 i0 m v1 v2 = some z) (hK : (qa_eq fin) z) : QG X Y 3 m 4 [(0, .ref (Y.2.2.1 i0)), (1, .int v1), (2, .int v2)] [] :=
  tn_X1_mostWorn_4 hC hQ hi0 hK qa_F (v1, v2) hf
set_option maxRecDepth 100000 in
set_option maxHeartbeats 4000000 in
theorem c_X1_mostWorn (l : Launch) (Y : qaY) {i0 : Nat} (hi0 : qaLin i0) (m : qaM) (q : Int32) (hf : f_X1_mostWorn i0 m = some q) : qaMi l Y yX1_mostWorn cX1_mostWorn 3 (some .int) 2 [.ref (Y.2.2.1 i0)] m m q := by
  refine qa_enti (by decide +kernel) (Nat.le_of_ble_eq_true rfl) fun X hC hQ => ?_
  have hK : qa_eq q q := rfl
  unfold f_X1_mostWorn at hf
  refine qi_iconst hC dX1_mostWorn_0 kn_iconst_m1 ?_
  refine qi_istore_n hC rfl (by decide) rfl dX1_mostWorn_1 ?_
  refine qi_iconst hC dX1_mostWorn_2 kn_iconst_0 ?_
  refine qi_istore_n hC rfl (by decide) rfl dX1_mostWorn_3 ?_
  refine qi_sub hC [2, 1, 0] rfl ?_
  exact tl_X1_mostWorn_4 hC hQ hi0 hf hK
set_option maxRecDepth 100000 in
set_option maxHeartbeats 4000000 in
theorem c_X6_isWeeks (l : Launch) (Y : qaY) (m : qaM) (v0 : Int32) (q : Int32) (hf : f_X6_isWeeks m v0 = some q) : qaMi l Y yX6_isWeeks cX6_isWeeks 1 (some .boolean) 1 [.int v0] m m q := by
  refine qa_enti (by decide +kernel) (Nat.le_of_ble_eq_true rfl) fun X hC hQ => ?_
  have hK : qa_eq q q := rfl
  unfold f_X6_isWeeks at hf
  refine qi_iload_n hC 0 rfl rfl dX6_isWeeks_0 ?_
  refine qi_if_lt (tgt := 15) hC (by decide) dX6_isWeeks_1 (fun h => ?_) (fun h => ?_)
  · replace hf := qa_if_t h hf
    refine qi_iconst hC dX6_isWeeks_15 kn_iconst_0 ?_
    obtain rfl := Option.some.inj hf
    exact qi_iretz hC hQ (congrArg (fun w => (w, m)) hK) rfl dX6_isWeeks_16
  · replace hf := qa_if_f h hf
    refine qi_iload_n hC 0 rfl rfl dX6_isWeeks_4 ?_
    refine qi_sipush hC dX6_isWeeks_5 kn_sipush_200 ?_
    refine qi_icmp_gt (tgt := 15) hC (by decide) dX6_isWeeks_8 (fun h => ?_) (fun h => ?_)
    · replace hf := qa_if_t h hf
      refine qi_iconst hC dX6_isWeeks_15 kn_iconst_0 ?_
      obtain rfl := Option.some.inj hf
      exact qi_iretz hC hQ (congrArg (fun w => (w, m)) hK) rfl dX6_isWeeks_16
    · replace hf := qa_if_f h hf
      refine qi_iconst hC dX6_isWeeks_11 kn_iconst_1 ?_
      refine qi_goto (tgt := 16) hC (by decide) dX6_isWeeks_12 ?_
      obtain rfl := Option.some.inj hf
      exact qi_iretz hC hQ (congrArg (fun w => (w, m)) hK) rfl dX6_isWeeks_16
set_option maxRecDepth 100000 in
set_option maxHeartbeats 4000000 in
theorem c_X1_becomes (l : Launch) (Y : qaY) {i0 : Nat} {i1 : Nat} (hi0 : qaLin i0) (hi1 : qaLin i1) (m : qaM) (q : qaM) (hf : f_X1_becomes i0 i1 m = some q) : qaMv l Y yX1_becomes cX1_becomes 2 1 [.ref (Y.2.2.1 i0), .ref (Y.2.2.1 i1)] m q := by
  refine qa_entv (by decide +kernel) (Nat.le_of_ble_eq_true rfl) fun X hC hQ => ?_
  have hK : qa_eq q q := rfl
  unfold f_X1_becomes at hf
  refine qi_aload_n hC 0 rfl rfl dX1_becomes_0 ?_
  refine qi_aload_n hC 1 rfl rfl dX1_becomes_1 ?_
  refine qi_geti hC kf_X1_15 hi1.1 rfl dX1_becomes_2 ?_
  obtain ⟨m1, em1, hf⟩ := qa_lt_e hf
  refine qi_puti hC em1 kp_X1_15 hi0.1 rfl rfl rfl dX1_becomes_5 ?_
  refine qi_aload_n hC 1 rfl rfl dX1_becomes_8 ?_
  refine qi_getr hC kf_X1_9 hi1.1 rfl dX1_becomes_9 ?_
  refine qi_iconst hC dX1_becomes_12 kn_iconst_0 ?_
  refine qi_aload_n hC 0 rfl rfl dX1_becomes_13 ?_
  refine qi_getr hC kf_X1_9 hi0.1 rfl dX1_becomes_14 ?_
  refine qi_iconst hC dX1_becomes_17 kn_iconst_0 ?_
  refine qi_bipush hC dX1_becomes_18 kn_bipush_56 ?_
  obtain ⟨h3, hf⟩ := qa_ck_e hf
  obtain ⟨m2, em2, hf⟩ := qa_lt_e hf
  obtain ⟨c1, c2, c3, c4, c5⟩ := qa_cpok_e h3
  refine qi_copy hC em2 km_X1_19 ka_nat ka_stat kz_J10 hi1.2 hi0.2 c1 c2 c3 c4 c5 (by decide) (Nat.le_of_ble_eq_true rfl) dX1_becomes_20 ?_
  obtain rfl := Option.some.inj hf
  exact qi_vret hC hQ hK dX1_becomes_23
set_option maxRecDepth 100000 in
set_option maxHeartbeats 4000000 in
theorem c_X2_becomes (l : Launch) (Y : qaY) {i0 : Nat} {i1 : Nat} (hi0 : qaPil i0) (hi1 : qaPil i1) (m : qaM) (q : qaM) (hf : f_X2_becomes i0 i1 m = some q) : qaMv l Y yX2_becomes cX2_becomes 2 1 [.ref (Y.2.2.1 i0), .ref (Y.2.2.1 i1)] m q := by
  refine qa_entv (by decide +kernel) (Nat.le_of_ble_eq_true rfl) fun X hC hQ => ?_
  have hK : qa_eq q q := rfl
  unfold f_X2_becomes at hf
  refine qi_aload_n hC 0 rfl rfl dX2_becomes_0 ?_
  refine qi_aload_n hC 1 rfl rfl dX2_becomes_1 ?_
  refine qi_geti hC kf_X2_15 hi1.1 rfl dX2_becomes_2 ?_
  obtain ⟨m1, em1, hf⟩ := qa_lt_e hf
  refine qi_puti hC em1 kp_X2_15 hi0.1 rfl rfl rfl dX2_becomes_5 ?_
  refine qi_aload_n hC 1 rfl rfl dX2_becomes_8 ?_
  refine qi_getr hC kf_X2_9 hi1.1 rfl dX2_becomes_9 ?_
  refine qi_iconst hC dX2_becomes_12 kn_iconst_0 ?_
  refine qi_aload_n hC 0 rfl rfl dX2_becomes_13 ?_
  refine qi_getr hC kf_X2_9 hi0.1 rfl dX2_becomes_14 ?_
  refine qi_iconst hC dX2_becomes_17 kn_iconst_0 ?_
  refine qi_bipush hC dX2_becomes_18 kn_bipush_8 ?_
  obtain ⟨h3, hf⟩ := qa_ck_e hf
  obtain ⟨m2, em2, hf⟩ := qa_lt_e hf
  obtain ⟨c1, c2, c3, c4, c5⟩ := qa_cpok_e h3
  refine qi_copy hC em2 km_X2_19 ka_nat ka_stat kz_J10 hi1.2 hi0.2 c1 c2 c3 c4 c5 (by decide) (Nat.le_of_ble_eq_true rfl) dX2_becomes_20 ?_
  obtain rfl := Option.some.inj hf
  exact qi_vret hC hQ hK dX2_becomes_23
set_option maxRecDepth 100000 in
set_option maxHeartbeats 4000000 in
theorem c_X6_isSheet (l : Launch) (Y : qaY) (m : qaM) (v0 : Int32) (q : Int32) (hf : f_X6_isSheet m v0 = some q) : qaMi l Y yX6_isSheet cX6_isSheet 1 (some .boolean) 1 [.int v0] m m q := by
  refine qa_enti (by decide +kernel) (Nat.le_of_ble_eq_true rfl) fun X hC hQ => ?_
  have hK : qa_eq q q := rfl
  unfold f_X6_isSheet at hf
  refine qi_iload_n hC 0 rfl rfl dX6_isSheet_0 ?_
  refine qi_if_lt (tgt := 13) hC (by decide) dX6_isSheet_1 (fun h => ?_) (fun h => ?_)
  · replace hf := qa_if_t h hf
    refine qi_iconst hC dX6_isSheet_13 kn_iconst_0 ?_
    obtain rfl := Option.some.inj hf
    exact qi_iretz hC hQ (congrArg (fun w => (w, m)) hK) rfl dX6_isSheet_14
  · replace hf := qa_if_f h hf
    refine qi_iload_n hC 0 rfl rfl dX6_isSheet_4 ?_
    refine qi_iconst hC dX6_isSheet_5 kn_iconst_4 ?_
    refine qi_icmp_ge (tgt := 13) hC (by decide) dX6_isSheet_6 (fun h => ?_) (fun h => ?_)
    · replace hf := qa_if_t h hf
      refine qi_iconst hC dX6_isSheet_13 kn_iconst_0 ?_
      obtain rfl := Option.some.inj hf
      exact qi_iretz hC hQ (congrArg (fun w => (w, m)) hK) rfl dX6_isSheet_14
    · replace hf := qa_if_f h hf
      refine qi_iconst hC dX6_isSheet_9 kn_iconst_1 ?_
      refine qi_goto (tgt := 14) hC (by decide) dX6_isSheet_10 ?_
      obtain rfl := Option.some.inj hf
      exact qi_iretz hC hQ (congrArg (fun w => (w, m)) hK) rfl dX6_isSheet_14
set_option maxRecDepth 100000 in
set_option maxHeartbeats 4000000 in
theorem c_X3_isPlace (l : Launch) (Y : qaY) (m : qaM) (v1 : Int32) (v2 : Int32) (q : Int32) (hf : f_X3_isPlace m v1 v2 = some q) : qaMi l Y yX3_isPlace cX3_isPlace 3 (some .boolean) 2 [.ref (Y.2.2.1 32), .int v1, .int v2] m m q := by
  refine qa_enti (by decide +kernel) (Nat.le_of_ble_eq_true rfl) fun X hC hQ => ?_
  have hK : qa_eq q q := rfl
  unfold f_X3_isPlace at hf
  refine qi_iload_n hC 1 rfl rfl dX3_isPlace_0 ?_
  obtain ⟨q1, hq1, hf⟩ := Option.bind_eq_some_iff.mp hf
  refine qi_callNi hC (as := [.int v1]) (c_X6_isSheet _ _ _ _ _ hq1) kl_X3_21 kc_X6_isSheet rfl rfl (by decide) (by decide) (Nat.le_of_ble_eq_true rfl) dX3_isPlace_1 ?_
  refine qi_if_eq (tgt := 31) hC (by decide) dX3_isPlace_4 (fun h => ?_) (fun h => ?_)
  · replace hf := qa_if_t h hf
    refine qi_iconst hC dX3_isPlace_31 kn_iconst_0 ?_
    obtain rfl := Option.some.inj hf
    exact qi_iretz hC hQ (congrArg (fun w => (w, m)) hK) rfl dX3_isPlace_32
  · replace hf := qa_if_f h hf
    refine qi_iload_n hC 2 rfl rfl dX3_isPlace_7 ?_
    refine qi_if_lt (tgt := 31) hC (by decide) dX3_isPlace_8 (fun h => ?_) (fun h => ?_)
    · replace hf := qa_if_t h hf
      refine qi_iconst hC dX3_isPlace_31 kn_iconst_0 ?_
      obtain rfl := Option.some.inj hf
      exact qi_iretz hC hQ (congrArg (fun w => (w, m)) hK) rfl dX3_isPlace_32
    · replace hf := qa_if_f h hf
      refine qi_iload_n hC 2 rfl rfl dX3_isPlace_11 ?_
      refine qi_aload_n hC 0 rfl rfl dX3_isPlace_12 ?_
      refine qi_getr hC kf_X3_15 sh_32 rfl dX3_isPlace_13 ?_
      refine qi_iload_n hC 1 rfl rfl dX3_isPlace_16 ?_
      obtain ⟨h2, hf⟩ := qa_ck_e hf
      refine qi_iald hC rfl sh_34 (qa_in_v h2) dX3_isPlace_17 ?_
      refine qi_icmp_ge (tgt := 31) hC (by decide) dX3_isPlace_18 (fun h => ?_) (fun h => ?_)
      · replace hf := qa_if_t h hf
        refine qi_iconst hC dX3_isPlace_31 kn_iconst_0 ?_
        obtain rfl := Option.some.inj hf
        exact qi_iretz hC hQ (congrArg (fun w => (w, m)) hK) rfl dX3_isPlace_32
      · replace hf := qa_if_f h hf
        refine qi_iload_n hC 2 rfl rfl dX3_isPlace_21 ?_
        refine qi_bipush hC dX3_isPlace_22 kn_bipush_40 ?_
        refine qi_icmp_ge (tgt := 31) hC (by decide) dX3_isPlace_24 (fun h => ?_) (fun h => ?_)
        · replace hf := qa_if_t h hf
          refine qi_iconst hC dX3_isPlace_31 kn_iconst_0 ?_
          obtain rfl := Option.some.inj hf
          exact qi_iretz hC hQ (congrArg (fun w => (w, m)) hK) rfl dX3_isPlace_32
        · replace hf := qa_if_f h hf
          refine qi_iconst hC dX3_isPlace_27 kn_iconst_1 ?_
          refine qi_goto (tgt := 32) hC (by decide) dX3_isPlace_28 ?_
          obtain rfl := Option.some.inj hf
          exact qi_iretz hC hQ (congrArg (fun w => (w, m)) hK) rfl dX3_isPlace_32
set_option maxRecDepth 100000 in
set_option maxHeartbeats 4000000 in
theorem c_X3_reads (l : Launch) (Y : qaY) (m : qaM) (v1 : Int32) (v2 : Int32) (q : Int32) (hf : f_X3_reads m v1 v2 = some q) : qaMi l Y yX3_reads cX3_reads 3 (some .int) 3 [.ref (Y.2.2.1 32), .int v1, .int v2] m m q := by
  refine qa_enti (by decide +kernel) (Nat.le_of_ble_eq_true rfl) fun X hC hQ => ?_
  have hK : qa_eq q q := rfl
  unfold f_X3_reads at hf
  refine qi_aload_n hC 0 rfl rfl dX3_reads_0 ?_
  refine qi_iload_n hC 1 rfl rfl dX3_reads_1 ?_
  refine qi_iload_n hC 2 rfl rfl dX3_reads_2 ?_
  obtain ⟨q1, hq1, hf⟩ := Option.bind_eq_some_iff.mp hf
  refine qi_callVi hC (as := [.int v1, .int v2]) (c_X3_isPlace _ _ _ _ _ _ hq1) kl_X3_25 sh_32 kc_X3_isPlace rfl rfl (by decide) (by decide) (Nat.le_of_ble_eq_true rfl) dX3_reads_3 ?_
  refine qi_if_eq (tgt := 23) hC (by decide) dX3_reads_6 (fun h => ?_) (fun h => ?_)
  · replace hf := qa_if_t h hf
    refine qi_iconst hC dX3_reads_23 kn_iconst_0 ?_
    obtain rfl := Option.some.inj hf
    exact qi_ireti hC hQ (congrArg (fun w => (w, m)) hK) dX3_reads_24
  · replace hf := qa_if_f h hf
    refine qi_aload_n hC 0 rfl rfl dX3_reads_9 ?_
    refine qi_getr hC kf_X3_18 sh_32 rfl dX3_reads_10 ?_
    refine qi_iload_n hC 1 rfl rfl dX3_reads_13 ?_
    refine qi_bipush hC dX3_reads_14 kn_bipush_40 ?_
    refine qi_imul hC dX3_reads_16 ?_
    refine qi_iload_n hC 2 rfl rfl dX3_reads_17 ?_
    refine qi_iadd hC dX3_reads_18 ?_
    obtain ⟨h2, hf⟩ := qa_ck_e hf
    refine qi_iald hC rfl sh_35 (qa_in_v h2) dX3_reads_19 ?_
    refine qi_goto (tgt := 24) hC (by decide) dX3_reads_20 ?_
    obtain rfl := Option.some.inj hf
    exact qi_ireti hC hQ (congrArg (fun w => (w, m)) hK) dX3_reads_24
set_option maxRecDepth 100000 in
set_option maxHeartbeats 4000000 in
theorem t_X3_isMissing_17 {X : qaX} {l : Launch} {Y : qaY} {fin : Int32} {m : qaM} (hC : QC X l Y cX3_isMissing RX3 2 2) (hQ : QRi X Y (some .boolean) m fin) {z : (Int32)} (hf : b_X3_isMissing_17 m = some z) (hK : (qa_eq fin) z) : QG X Y 2 m 17 [] [] := by
  unfold b_X3_isMissing_17 at hf
  refine qi_iconst hC dX3_isMissing_17 kn_iconst_1 ?_
  refine qi_goto (tgt := 22) hC (by decide) dX3_isMissing_18 ?_
  obtain rfl := Option.some.inj hf
  exact qi_iretz hC hQ (congrArg (fun w => (w, m)) hK) rfl dX3_isMissing_22
set_option maxRecDepth 100000 in
set_option maxHeartbeats 4000000 in
theorem c_X3_isMissing (l : Launch) (Y : qaY) (m : qaM) (v1 : Int32) (q : Int32) (hf : f_X3_isMissing m v1 = some q) : qaMi l Y yX3_isMissing cX3_isMissing 2 (some .boolean) 2 [.ref (Y.2.2.1 32), .int v1] m m q := by
  refine qa_enti (by decide +kernel) (Nat.le_of_ble_eq_true rfl) fun X hC hQ => ?_
  have hK : qa_eq q q := rfl
  unfold f_X3_isMissing at hf
  refine qi_iload_n hC 1 rfl rfl dX3_isMissing_0 ?_
  obtain ⟨q1, hq1, hf⟩ := Option.bind_eq_some_iff.mp hf
  refine qi_callNi hC (as := [.int v1]) (c_X6_isSheet _ _ _ _ _ hq1) kl_X3_21 kc_X6_isSheet rfl rfl (by decide) (by decide) (Nat.le_of_ble_eq_true rfl) dX3_isMissing_1 ?_
  refine qi_if_eq (tgt := 17) hC (by decide) dX3_isMissing_4 (fun h => ?_) (fun h => ?_)
  · replace hf := qa_if_t h hf
    refine qi_sub hC [] rfl ?_
    exact t_X3_isMissing_17 hC hQ hf hK
  · replace hf := qa_if_f h hf
    refine qi_aload_n hC 0 rfl rfl dX3_isMissing_7 ?_
    refine qi_getr hC kf_X3_9 sh_32 rfl dX3_isMissing_8 ?_
    refine qi_iload_n hC 1 rfl rfl dX3_isMissing_11 ?_
    obtain ⟨h2, hf⟩ := qa_ck_e hf
    refine qi_iald hC rfl sh_33 (qa_in_v h2) dX3_isMissing_12 ?_
    refine qi_iconst hC dX3_isMissing_13 kn_iconst_m1 ?_
    refine qi_icmp_ne (tgt := 21) hC (by decide) dX3_isMissing_14 (fun h => ?_) (fun h => ?_)
    · replace hf := qa_if_f h hf
      refine qi_iconst hC dX3_isMissing_21 kn_iconst_0 ?_
      obtain rfl := Option.some.inj hf
      exact qi_iretz hC hQ (congrArg (fun w => (w, m)) hK) rfl dX3_isMissing_22
    · replace hf := qa_if_t h hf
      refine qi_sub hC [] rfl ?_
      exact t_X3_isMissing_17 hC hQ hf hK
set_option maxRecDepth 100000 in
set_option maxHeartbeats 4000000 in
theorem t_X3_makes_34 {X : qaX} {l : Launch} {Y : qaY} {fin : qaM} (hC : QC X l Y cX3_makes RX3 5 2) (hQ : QRv X Y fin) {m : qaM} {v1 : Int32} {v4 : Int32} {z : ((qaM × Int32) ⊕ (qaM))} (hf : b_X3_makes_34 m v1 v4 = some z) (hK : (qa_K (fun s => QG X Y 5 s.1 34 [(0, .ref (Y.2.2.1 32)), (1, .int v1), (4, .int s.2)] []) (qa_eq fin)) z) : QG X Y 5 m 34 [(0, .ref (Y.2.2.1 32)), (1, .int v1), (4, .int v4)] [] := by
  unfold b_X3_makes_34 at hf
  refine qi_iload hC 2 rfl dX3_makes_34 ?_
  refine qi_bipush hC dX3_makes_36 kn_bipush_40 ?_
  refine qi_icmp_ge (tgt := 60) hC (by decide) dX3_makes_38 (fun h => ?_) (fun h => ?_)
  · replace hf := qa_if_t h hf
    obtain ⟨z, rfl, hg⟩ := qa_inr_e hf; have hf := hg
    obtain rfl := Option.some.inj hf
    exact qi_vret hC hQ hK dX3_makes_60
  · replace hf := qa_if_f h hf
    refine qi_aload_n hC 0 rfl rfl dX3_makes_41 ?_
    refine qi_getr hC kf_X3_18 sh_32 rfl dX3_makes_42 ?_
    refine qi_iload_n hC 1 rfl rfl dX3_makes_45 ?_
    refine qi_bipush hC dX3_makes_46 kn_bipush_40 ?_
    refine qi_imul hC dX3_makes_48 ?_
    refine qi_iload hC 2 rfl dX3_makes_49 ?_
    refine qi_iadd hC dX3_makes_51 ?_
    refine qi_iconst hC dX3_makes_52 kn_iconst_0 ?_
    obtain ⟨h6, hf⟩ := qa_ck_e hf
    obtain ⟨m7, em7, hf⟩ := qa_lt_e hf
    refine qi_iast hC rfl em7 sh_35 (qa_in_v h6) dX3_makes_53 ?_
    obtain ⟨x8, ex8, hf⟩ := qa_lt_e hf
    refine qi_iinc hC (n := 1) (v := x8) 2 rfl ((congrArg (fun q => v4 + q) kn_iconst_1).trans ex8.symm) (by decide) rfl dX3_makes_54 ?_
    refine qi_goto (tgt := 34) hC (by decide) dX3_makes_57 ?_
    obtain rfl := Option.some.inj hf
    refine qi_sub hC [1, 2, 0] rfl ?_
    exact hK
set_option maxRecDepth 100000 in
set_option maxHeartbeats 4000000 in
theorem tn_X3_makes_34 {X : qaX} {l : Launch} {Y : qaY} {fin : qaM} (hC : QC X l Y cX3_makes RX3 5 2) (hQ : QRv X Y fin) {v1 : Int32} {z : (qaM)} (hK : (qa_eq fin) z) : ∀ (n : Nat) (s : qaM × Int32), qa_lp (fun s => b_X3_makes_34 s.1 v1 s.2) n s = some z → QG X Y 5 s.1 34 [(0, .ref (Y.2.2.1 32)), (1, .int v1), (4, .int s.2)] [] := by
  intro n
  induction n with
  | zero => intro s hf; cases hf
  | succ n ih =>
    intro s hf
    obtain ⟨y, hy, hf⟩ := qa_lp_e hf
    refine t_X3_makes_34 hC hQ hy ?_
    rcases hf with ⟨s', rfl, hf⟩ | rfl
    · exact ih s' hf
    · exact hK
set_option maxRecDepth 100000 in
set_option maxHeartbeats 4000000 in
theorem tl_X3_makes_34 {X : qaX} {l : Launch} {Y : qaY} {fin : qaM} (hC : QC X l Y cX3_makes RX3 5 2) (hQ : QRv X Y fin) {m : qaM} {v1 : Int32} {v4 : Int32} {z : (qaM)} (hf : lp_X3_makes_34 m v1 v4 = some z) (hK : (qa_eq fin) z) : QG X Y 5 m 34 [(0, .ref (Y.2.2.1 32)), (1, .int v1), (4, .int v4)] [] :=
  tn_X3_makes_34 hC hQ hK qa_F (m, v4) hf
set_option maxRecDepth 100000 in
set_option maxHeartbeats 4000000 in
theorem c_X3_makes (l : Launch) (Y : qaY) (m : qaM) (v1 : Int32) (v2 : Int32) (v3 : Int32) (q : qaM) (hf : f_X3_makes m v1 v2 v3 = some q) : qaMv l Y yX3_makes cX3_makes 5 2 [.ref (Y.2.2.1 32), .int v1, .int v2, .int v3] m q := by
  refine qa_entv (by decide +kernel) (Nat.le_of_ble_eq_true rfl) fun X hC hQ => ?_
  have hK : qa_eq q q := rfl
  unfold f_X3_makes at hf
  refine qi_iload_n hC 1 rfl rfl dX3_makes_0 ?_
  obtain ⟨q1, hq1, hf⟩ := Option.bind_eq_some_iff.mp hf
  refine qi_callNi hC (as := [.int v1]) (c_X6_isSheet _ _ _ _ _ hq1) kl_X3_21 kc_X6_isSheet rfl rfl (by decide) (by decide) (Nat.le_of_ble_eq_true rfl) dX3_makes_1 ?_
  refine qi_if_eq (tgt := 60) hC (by decide) dX3_makes_4 (fun h => ?_) (fun h => ?_)
  · replace hf := qa_if_t h hf
    obtain rfl := Option.some.inj hf
    exact qi_vret hC hQ hK dX3_makes_60
  · replace hf := qa_if_f h hf
    refine qi_iload_n hC 3 rfl rfl dX3_makes_7 ?_
    refine qi_if_lt (tgt := 60) hC (by decide) dX3_makes_8 (fun h => ?_) (fun h => ?_)
    · replace hf := qa_if_t h hf
      obtain rfl := Option.some.inj hf
      exact qi_vret hC hQ hK dX3_makes_60
    · replace hf := qa_if_f h hf
      refine qi_iload_n hC 3 rfl rfl dX3_makes_11 ?_
      refine qi_bipush hC dX3_makes_12 kn_bipush_40 ?_
      refine qi_icmp_gt (tgt := 60) hC (by decide) dX3_makes_14 (fun h => ?_) (fun h => ?_)
      · replace hf := qa_if_t h hf
        obtain rfl := Option.some.inj hf
        exact qi_vret hC hQ hK dX3_makes_60
      · replace hf := qa_if_f h hf
        refine qi_aload_n hC 0 rfl rfl dX3_makes_17 ?_
        refine qi_getr hC kf_X3_9 sh_32 rfl dX3_makes_18 ?_
        refine qi_iload_n hC 1 rfl rfl dX3_makes_21 ?_
        refine qi_iload_n hC 2 rfl rfl dX3_makes_22 ?_
        obtain ⟨h2, hf⟩ := qa_ck_e hf
        obtain ⟨m3, em3, hf⟩ := qa_lt_e hf
        refine qi_iast hC rfl em3 sh_33 (qa_in_v h2) dX3_makes_23 ?_
        refine qi_aload_n hC 0 rfl rfl dX3_makes_24 ?_
        refine qi_getr hC kf_X3_15 sh_32 rfl dX3_makes_25 ?_
        refine qi_iload_n hC 1 rfl rfl dX3_makes_28 ?_
        refine qi_iload_n hC 3 rfl rfl dX3_makes_29 ?_
        obtain ⟨h4, hf⟩ := qa_ck_e hf
        obtain ⟨m5, em5, hf⟩ := qa_lt_e hf
        refine qi_iast hC rfl em5 sh_34 (qa_in_v h4) dX3_makes_30 ?_
        refine qi_iconst hC dX3_makes_31 kn_iconst_0 ?_
        refine qi_istore hC (by decide) rfl dX3_makes_32 ?_
        refine qi_sub hC [1, 2, 0] rfl ?_
        exact tl_X3_makes_34 hC hQ hf hK
set_option maxRecDepth 100000 in
set_option maxHeartbeats 4000000 in
theorem t_X3_writes_49 {X : qaX} {l : Launch} {Y : qaY} {fin : qaM} (hC : QC X l Y cX3_writes RX3 4 3) (hQ : QRv X Y fin) {m : qaM} {s1 : Int32} {s2 : Int32} {z : (qaM)} (hf : b_X3_writes_49 m s1 s2 = some z) (hK : (qa_eq fin) z) : QG X Y 4 m 49 [] [.int s2, .int s1, .ref (Y.2.2.1 35)] := by
  unfold b_X3_writes_49 at hf
  obtain ⟨h4, hf⟩ := qa_ck_e hf
  obtain ⟨m5, em5, hf⟩ := qa_lt_e hf
  refine qi_iast hC rfl em5 sh_35 (qa_in_v h4) dX3_writes_49 ?_
  obtain rfl := Option.some.inj hf
  exact qi_vret hC hQ hK dX3_writes_50
set_option maxRecDepth 100000 in
set_option maxHeartbeats 4000000 in
theorem c_X3_writes (l : Launch) (Y : qaY) (m : qaM) (v1 : Int32) (v2 : Int32) (v3 : Int32) (q : qaM) (hf : f_X3_writes m v1 v2 v3 = some q) : qaMv l Y yX3_writes cX3_writes 4 3 [.ref (Y.2.2.1 32), .int v1, .int v2, .int v3] m q := by
  refine qa_entv (by decide +kernel) (Nat.le_of_ble_eq_true rfl) fun X hC hQ => ?_
  have hK : qa_eq q q := rfl
  unfold f_X3_writes at hf
  refine qi_aload_n hC 0 rfl rfl dX3_writes_0 ?_
  refine qi_iload_n hC 1 rfl rfl dX3_writes_1 ?_
  refine qi_iload_n hC 2 rfl rfl dX3_writes_2 ?_
  obtain ⟨q1, hq1, hf⟩ := Option.bind_eq_some_iff.mp hf
  refine qi_callVi hC (as := [.int v1, .int v2]) (c_X3_isPlace _ _ _ _ _ _ hq1) kl_X3_25 sh_32 kc_X3_isPlace rfl rfl (by decide) (by decide) (Nat.le_of_ble_eq_true rfl) dX3_writes_3 ?_
  refine qi_if_eq (tgt := 50) hC (by decide) dX3_writes_6 (fun h => ?_) (fun h => ?_)
  · replace hf := qa_if_t h hf
    obtain rfl := Option.some.inj hf
    exact qi_vret hC hQ hK dX3_writes_50
  · replace hf := qa_if_f h hf
    refine qi_aload_n hC 0 rfl rfl dX3_writes_9 ?_
    refine qi_getr hC kf_X3_18 sh_32 rfl dX3_writes_10 ?_
    refine qi_iload_n hC 1 rfl rfl dX3_writes_13 ?_
    refine qi_bipush hC dX3_writes_14 kn_bipush_40 ?_
    refine qi_imul hC dX3_writes_16 ?_
    refine qi_iload_n hC 2 rfl rfl dX3_writes_17 ?_
    refine qi_iadd hC dX3_writes_18 ?_
    refine qi_aload_n hC 0 rfl rfl dX3_writes_19 ?_
    refine qi_getr hC kf_X3_9 sh_32 rfl dX3_writes_20 ?_
    refine qi_iload_n hC 1 rfl rfl dX3_writes_23 ?_
    obtain ⟨h2, hf⟩ := qa_ck_e hf
    refine qi_iald hC rfl sh_33 (qa_in_v h2) dX3_writes_24 ?_
    refine qi_if_ne (tgt := 33) hC (by decide) dX3_writes_25 (fun h => ?_) (fun h => ?_)
    · replace hf := qa_if_f h hf
      refine qi_aload_n hC 0 rfl rfl dX3_writes_33 ?_
      refine qi_getr hC kf_X3_9 sh_32 rfl dX3_writes_34 ?_
      refine qi_iload_n hC 1 rfl rfl dX3_writes_37 ?_
      obtain ⟨h3, hf⟩ := qa_ck_e hf
      refine qi_iald hC rfl sh_33 (qa_in_v h3) dX3_writes_38 ?_
      refine qi_iconst hC dX3_writes_39 kn_iconst_1 ?_
      refine qi_icmp_ne (tgt := 48) hC (by decide) dX3_writes_40 (fun h => ?_) (fun h => ?_)
      · replace hf := qa_if_f h hf
        refine qi_iload_n hC 3 rfl rfl dX3_writes_48 ?_
        refine qi_sub hC [] rfl ?_
        exact t_X3_writes_49 hC hQ hf hK
      · replace hf := qa_if_t h hf
        refine qi_iload_n hC 3 rfl rfl dX3_writes_43 ?_
        refine qi_i2s hC dX3_writes_44 ?_
        refine qi_goto (tgt := 49) hC (by decide) dX3_writes_45 ?_
        refine qi_sub hC [] rfl ?_
        exact t_X3_writes_49 hC hQ hf hK
    · replace hf := qa_if_t h hf
      refine qi_iload_n hC 3 rfl rfl dX3_writes_28 ?_
      refine qi_i2b hC dX3_writes_29 ?_
      refine qi_goto (tgt := 49) hC (by decide) dX3_writes_30 ?_
      refine qi_sub hC [] rfl ?_
      exact t_X3_writes_49 hC hQ hf hK
set_option maxRecDepth 100000 in
set_option maxHeartbeats 4000000 in
theorem t_X1_wornOfAll_4 {X : qaX} {l : Launch} {Y : qaY} {fin : Int32} {m : qaM} {i0 : Nat} (hC : QC X l Y cX1_wornOfAll RX1 3 2) (hQ : QRi X Y (some .int) m fin) (hi0 : qaLin i0) {v1 : Int32} {v2 : Int32} {z : ((Int32 × Int32) ⊕ (Int32))} (hf : b_X1_wornOfAll_4 i0 m v1 v2 = some z) (hK : (qa_K (fun s => QG X Y 3 m 4 [(0, .ref (Y.2.2.1 i0)), (1, .int s.1), (2, .int s.2)] []) (qa_eq fin)) z) : QG X Y 3 m 4 [(0, .ref (Y.2.2.1 i0)), (1, .int v1), (2, .int v2)] [] := by
  unfold b_X1_wornOfAll_4 at hf
  refine qi_iload_n hC 2 rfl rfl dX1_wornOfAll_4 ?_
  refine qi_aload_n hC 0 rfl rfl dX1_wornOfAll_5 ?_
  refine qi_geti hC kf_X1_15 hi0.1 rfl dX1_wornOfAll_6 ?_
  refine qi_icmp_ge (tgt := 27) hC (by decide) dX1_wornOfAll_9 (fun h => ?_) (fun h => ?_)
  · replace hf := qa_if_t h hf
    refine qi_iload_n hC 1 rfl rfl dX1_wornOfAll_27 ?_
    obtain ⟨z, rfl, hg⟩ := qa_inr_e hf; have hf := hg
    obtain rfl := Option.some.inj hf
    exact qi_ireti hC hQ (congrArg (fun w => (w, m)) hK) dX1_wornOfAll_28
  · replace hf := qa_if_f h hf
    refine qi_iload_n hC 1 rfl rfl dX1_wornOfAll_12 ?_
    refine qi_aload_n hC 0 rfl rfl dX1_wornOfAll_13 ?_
    refine qi_iload_n hC 2 rfl rfl dX1_wornOfAll_14 ?_
    refine qi_iconst hC dX1_wornOfAll_15 kn_iconst_2 ?_
    obtain ⟨q1, hq1, hf⟩ := Option.bind_eq_some_iff.mp hf
    refine qi_callVi hC (as := [.int v2, .int (2 : Int32)]) (c_X1_fact _ _ hi0 _ _ _ _ hq1) kl_X1_29 hi0.1 kc_X1_fact rfl rfl (by decide) (by decide) (Nat.le_of_ble_eq_true rfl) dX1_wornOfAll_16 ?_
    refine qi_iadd hC dX1_wornOfAll_19 ?_
    obtain ⟨x2, ex2, hf⟩ := qa_lt_e hf
    refine qi_nmi hC ex2 ?_
    refine qi_istore_n hC rfl (by decide) rfl dX1_wornOfAll_20 ?_
    obtain ⟨x3, ex3, hf⟩ := qa_lt_e hf
    refine qi_iinc hC (n := 1) (v := x3) 2 rfl ((congrArg (fun q => v2 + q) kn_iconst_1).trans ex3.symm) (by decide) rfl dX1_wornOfAll_21 ?_
    refine qi_goto (tgt := 4) hC (by decide) dX1_wornOfAll_24 ?_
    obtain rfl := Option.some.inj hf
    refine qi_sub hC [2, 1, 0] rfl ?_
    exact hK
set_option maxRecDepth 100000 in
set_option maxHeartbeats 4000000 in
theorem tn_X1_wornOfAll_4 {X : qaX} {l : Launch} {Y : qaY} {fin : Int32} {m : qaM} {i0 : Nat} (hC : QC X l Y cX1_wornOfAll RX1 3 2) (hQ : QRi X Y (some .int) m fin) (hi0 : qaLin i0) {z : (Int32)} (hK : (qa_eq fin) z) : ∀ (n : Nat) (s : Int32 × Int32), qa_lp (fun s => b_X1_wornOfAll_4 i0 m s.1 s.2) n s = some z → QG X Y 3 m 4 [(0, .ref (Y.2.2.1 i0)), (1, .int s.1), (2, .int s.2)] [] := by
  intro n
  induction n with
  | zero => intro s hf; cases hf
  | succ n ih =>
    intro s hf
    obtain ⟨y, hy, hf⟩ := qa_lp_e hf
    refine t_X1_wornOfAll_4 hC hQ hi0 hy ?_
    rcases hf with ⟨s', rfl, hf⟩ | rfl
    · exact ih s' hf
    · exact hK
set_option maxRecDepth 100000 in
set_option maxHeartbeats 4000000 in
theorem tl_X1_wornOfAll_4 {X : qaX} {l : Launch} {Y : qaY} {fin : Int32} {m : qaM} {i0 : Nat} (hC : QC X l Y cX1_wornOfAll RX1 3 2) (hQ : QRi X Y (some .int) m fin) (hi0 : qaLin i0) {v1 : Int32} {v2 : Int32} {z : (Int32)} (hf : lp_X1_wornOfAll_4 i0 m v1 v2 = some z) (hK : (qa_eq fin) z) : QG X Y 3 m 4 [(0, .ref (Y.2.2.1 i0)), (1, .int v1), (2, .int v2)] [] :=
  tn_X1_wornOfAll_4 hC hQ hi0 hK qa_F (v1, v2) hf
set_option maxRecDepth 100000 in
set_option maxHeartbeats 4000000 in
theorem c_X1_wornOfAll (l : Launch) (Y : qaY) {i0 : Nat} (hi0 : qaLin i0) (m : qaM) (q : Int32) (hf : f_X1_wornOfAll i0 m = some q) : qaMi l Y yX1_wornOfAll cX1_wornOfAll 3 (some .int) 2 [.ref (Y.2.2.1 i0)] m m q := by
  refine qa_enti (by decide +kernel) (Nat.le_of_ble_eq_true rfl) fun X hC hQ => ?_
  have hK : qa_eq q q := rfl
  unfold f_X1_wornOfAll at hf
  refine qi_iconst hC dX1_wornOfAll_0 kn_iconst_0 ?_
  refine qi_istore_n hC rfl (by decide) rfl dX1_wornOfAll_1 ?_
  refine qi_iconst hC dX1_wornOfAll_2 kn_iconst_0 ?_
  refine qi_istore_n hC rfl (by decide) rfl dX1_wornOfAll_3 ?_
  refine qi_sub hC [2, 1, 0] rfl ?_
  exact tl_X1_wornOfAll_4 hC hQ hi0 hf hK
set_option maxRecDepth 100000 in
set_option maxHeartbeats 4000000 in
theorem c_X6_isSeed (l : Launch) (Y : qaY) (m : qaM) (v0 : Int32) (q : Int32) (hf : f_X6_isSeed m v0 = some q) : qaMi l Y yX6_isSeed cX6_isSeed 1 (some .boolean) 1 [.int v0] m m q := by
  refine qa_enti (by decide +kernel) (Nat.le_of_ble_eq_true rfl) fun X hC hQ => ?_
  have hK : qa_eq q q := rfl
  unfold f_X6_isSeed at hf
  refine qi_iload_n hC 0 rfl rfl dX6_isSeed_0 ?_
  refine qi_if_lt (tgt := 15) hC (by decide) dX6_isSeed_1 (fun h => ?_) (fun h => ?_)
  · replace hf := qa_if_t h hf
    refine qi_iconst hC dX6_isSeed_15 kn_iconst_0 ?_
    obtain rfl := Option.some.inj hf
    exact qi_iretz hC hQ (congrArg (fun w => (w, m)) hK) rfl dX6_isSeed_16
  · replace hf := qa_if_f h hf
    refine qi_iload_n hC 0 rfl rfl dX6_isSeed_4 ?_
    refine qi_ldcw hC kk_X6_260 dX6_isSeed_5 ?_
    refine qi_icmp_gt (tgt := 15) hC (by decide) dX6_isSeed_8 (fun h => ?_) (fun h => ?_)
    · replace hf := qa_if_t h hf
      refine qi_iconst hC dX6_isSeed_15 kn_iconst_0 ?_
      obtain rfl := Option.some.inj hf
      exact qi_iretz hC hQ (congrArg (fun w => (w, m)) hK) rfl dX6_isSeed_16
    · replace hf := qa_if_f h hf
      refine qi_iconst hC dX6_isSeed_11 kn_iconst_1 ?_
      refine qi_goto (tgt := 16) hC (by decide) dX6_isSeed_12 ?_
      obtain rfl := Option.some.inj hf
      exact qi_iretz hC hQ (congrArg (fun w => (w, m)) hK) rfl dX6_isSeed_16
set_option maxRecDepth 100000 in
set_option maxHeartbeats 4000000 in
theorem c_X3_holds (l : Launch) (Y : qaY) (m : qaM) (v1 : Int32) (v2 : Int32) (v3 : Int32) (q : Int32) (hf : f_X3_holds m v1 v2 v3 = some q) : qaMi l Y yX3_holds cX3_holds 4 (some .boolean) 2 [.ref (Y.2.2.1 32), .int v1, .int v2, .int v3] m m q := by
  refine qa_enti (by decide +kernel) (Nat.le_of_ble_eq_true rfl) fun X hC hQ => ?_
  have hK : qa_eq q q := rfl
  unfold f_X3_holds at hf
  refine qi_iload_n hC 1 rfl rfl dX3_holds_0 ?_
  obtain ⟨q1, hq1, hf⟩ := Option.bind_eq_some_iff.mp hf
  refine qi_callNi hC (as := [.int v1]) (c_X6_isSheet _ _ _ _ _ hq1) kl_X3_21 kc_X6_isSheet rfl rfl (by decide) (by decide) (Nat.le_of_ble_eq_true rfl) dX3_holds_1 ?_
  refine qi_if_eq (tgt := 52) hC (by decide) dX3_holds_4 (fun h => ?_) (fun h => ?_)
  · replace hf := qa_if_t h hf
    refine qi_iconst hC dX3_holds_52 kn_iconst_0 ?_
    obtain rfl := Option.some.inj hf
    exact qi_iretz hC hQ (congrArg (fun w => (w, m)) hK) rfl dX3_holds_53
  · replace hf := qa_if_f h hf
    refine qi_aload_n hC 0 rfl rfl dX3_holds_7 ?_
    refine qi_getr hC kf_X3_15 sh_32 rfl dX3_holds_8 ?_
    refine qi_iload_n hC 1 rfl rfl dX3_holds_11 ?_
    obtain ⟨h2, hf⟩ := qa_ck_e hf
    refine qi_iald hC rfl sh_34 (qa_in_v h2) dX3_holds_12 ?_
    refine qi_bipush hC dX3_holds_13 kn_bipush_40 ?_
    refine qi_icmp_gt (tgt := 52) hC (by decide) dX3_holds_15 (fun h => ?_) (fun h => ?_)
    · replace hf := qa_if_t h hf
      refine qi_iconst hC dX3_holds_52 kn_iconst_0 ?_
      obtain rfl := Option.some.inj hf
      exact qi_iretz hC hQ (congrArg (fun w => (w, m)) hK) rfl dX3_holds_53
    · replace hf := qa_if_f h hf
      refine qi_iload_n hC 2 rfl rfl dX3_holds_18 ?_
      refine qi_if_lt (tgt := 52) hC (by decide) dX3_holds_19 (fun h => ?_) (fun h => ?_)
      · replace hf := qa_if_t h hf
        refine qi_iconst hC dX3_holds_52 kn_iconst_0 ?_
        obtain rfl := Option.some.inj hf
        exact qi_iretz hC hQ (congrArg (fun w => (w, m)) hK) rfl dX3_holds_53
      · replace hf := qa_if_f h hf
        refine qi_iload_n hC 3 rfl rfl dX3_holds_22 ?_
        refine qi_if_lt (tgt := 52) hC (by decide) dX3_holds_23 (fun h => ?_) (fun h => ?_)
        · replace hf := qa_if_t h hf
          refine qi_iconst hC dX3_holds_52 kn_iconst_0 ?_
          obtain rfl := Option.some.inj hf
          exact qi_iretz hC hQ (congrArg (fun w => (w, m)) hK) rfl dX3_holds_53
        · replace hf := qa_if_f h hf
          refine qi_iload_n hC 3 rfl rfl dX3_holds_26 ?_
          refine qi_aload_n hC 0 rfl rfl dX3_holds_27 ?_
          refine qi_getr hC kf_X3_15 sh_32 rfl dX3_holds_28 ?_
          refine qi_iload_n hC 1 rfl rfl dX3_holds_31 ?_
          obtain ⟨h3, hf⟩ := qa_ck_e hf
          refine qi_iald hC rfl sh_34 (qa_in_v h3) dX3_holds_32 ?_
          refine qi_icmp_gt (tgt := 52) hC (by decide) dX3_holds_33 (fun h => ?_) (fun h => ?_)
          · replace hf := qa_if_t h hf
            refine qi_iconst hC dX3_holds_52 kn_iconst_0 ?_
            obtain rfl := Option.some.inj hf
            exact qi_iretz hC hQ (congrArg (fun w => (w, m)) hK) rfl dX3_holds_53
          · replace hf := qa_if_f h hf
            refine qi_iload_n hC 2 rfl rfl dX3_holds_36 ?_
            refine qi_aload_n hC 0 rfl rfl dX3_holds_37 ?_
            refine qi_getr hC kf_X3_15 sh_32 rfl dX3_holds_38 ?_
            refine qi_iload_n hC 1 rfl rfl dX3_holds_41 ?_
            obtain ⟨h4, hf⟩ := qa_ck_e hf
            refine qi_iald hC rfl sh_34 (qa_in_v h4) dX3_holds_42 ?_
            refine qi_iload_n hC 3 rfl rfl dX3_holds_43 ?_
            refine qi_isub hC dX3_holds_44 ?_
            refine qi_icmp_gt (tgt := 52) hC (by decide) dX3_holds_45 (fun h => ?_) (fun h => ?_)
            · replace hf := qa_if_t h hf
              refine qi_iconst hC dX3_holds_52 kn_iconst_0 ?_
              obtain rfl := Option.some.inj hf
              exact qi_iretz hC hQ (congrArg (fun w => (w, m)) hK) rfl dX3_holds_53
            · replace hf := qa_if_f h hf
              refine qi_iconst hC dX3_holds_48 kn_iconst_1 ?_
              refine qi_goto (tgt := 53) hC (by decide) dX3_holds_49 ?_
              obtain rfl := Option.some.inj hf
              exact qi_iretz hC hQ (congrArg (fun w => (w, m)) hK) rfl dX3_holds_53
set_option maxRecDepth 100000 in
set_option maxHeartbeats 4000000 in
theorem c_X3_moves (l : Launch) (Y : qaY) (m : qaM) (v1 : Int32) (v2 : Int32) (v3 : Int32) (v4 : Int32) (v5 : Int32) (q : qaM) (hf : f_X3_moves m v1 v2 v3 v4 v5 = some q) : qaMv l Y yX3_moves cX3_moves 6 3 [.ref (Y.2.2.1 32), .int v1, .int v2, .int v3, .int v4, .int v5] m q := by
  refine qa_entv (by decide +kernel) (Nat.le_of_ble_eq_true rfl) fun X hC hQ => ?_
  have hK : qa_eq q q := rfl
  unfold f_X3_moves at hf
  refine qi_aload_n hC 0 rfl rfl dX3_moves_0 ?_
  refine qi_iload_n hC 1 rfl rfl dX3_moves_1 ?_
  refine qi_iload_n hC 2 rfl rfl dX3_moves_2 ?_
  refine qi_iload hC 5 rfl dX3_moves_3 ?_
  obtain ⟨q1, hq1, hf⟩ := Option.bind_eq_some_iff.mp hf
  refine qi_callVi hC (as := [.int v1, .int v2, .int v5]) (c_X3_holds _ _ _ _ _ _ _ hq1) kl_X3_29 sh_32 kc_X3_holds rfl rfl (by decide) (by decide) (Nat.le_of_ble_eq_true rfl) dX3_moves_5 ?_
  refine qi_if_eq (tgt := 49) hC (by decide) dX3_moves_8 (fun h => ?_) (fun h => ?_)
  · replace hf := qa_if_t h hf
    obtain rfl := Option.some.inj hf
    exact qi_vret hC hQ hK dX3_moves_49
  · replace hf := qa_if_f h hf
    refine qi_aload_n hC 0 rfl rfl dX3_moves_11 ?_
    refine qi_iload_n hC 3 rfl rfl dX3_moves_12 ?_
    refine qi_iload hC 4 rfl dX3_moves_13 ?_
    refine qi_iload hC 5 rfl dX3_moves_15 ?_
    obtain ⟨q2, hq2, hf⟩ := Option.bind_eq_some_iff.mp hf
    refine qi_callVi hC (as := [.int v3, .int v4, .int v5]) (c_X3_holds _ _ _ _ _ _ _ hq2) kl_X3_29 sh_32 kc_X3_holds rfl rfl (by decide) (by decide) (Nat.le_of_ble_eq_true rfl) dX3_moves_17 ?_
    refine qi_if_eq (tgt := 49) hC (by decide) dX3_moves_20 (fun h => ?_) (fun h => ?_)
    · replace hf := qa_if_t h hf
      obtain rfl := Option.some.inj hf
      exact qi_vret hC hQ hK dX3_moves_49
    · replace hf := qa_if_f h hf
      refine qi_aload_n hC 0 rfl rfl dX3_moves_23 ?_
      refine qi_getr hC kf_X3_18 sh_32 rfl dX3_moves_24 ?_
      refine qi_iload_n hC 1 rfl rfl dX3_moves_27 ?_
      refine qi_bipush hC dX3_moves_28 kn_bipush_40 ?_
      refine qi_imul hC dX3_moves_30 ?_
      refine qi_iload_n hC 2 rfl rfl dX3_moves_31 ?_
      refine qi_iadd hC dX3_moves_32 ?_
      refine qi_aload_n hC 0 rfl rfl dX3_moves_33 ?_
      refine qi_getr hC kf_X3_18 sh_32 rfl dX3_moves_34 ?_
      refine qi_iload_n hC 3 rfl rfl dX3_moves_37 ?_
      refine qi_bipush hC dX3_moves_38 kn_bipush_40 ?_
      refine qi_imul hC dX3_moves_40 ?_
      refine qi_iload hC 4 rfl dX3_moves_41 ?_
      refine qi_iadd hC dX3_moves_43 ?_
      refine qi_iload hC 5 rfl dX3_moves_44 ?_
      obtain ⟨h4, hf⟩ := qa_ck_e hf
      obtain ⟨m3, em3, hf⟩ := qa_lt_e hf
      obtain ⟨c1, c2, c3, c4, c5⟩ := qa_cpok_e h4
      refine qi_copy hC em3 km_X3_33 ka_nat ka_stat kz_J10 sh_35 sh_35 c1 c2 c3 c4 c5 (by decide) (Nat.le_of_ble_eq_true rfl) dX3_moves_46 ?_
      obtain rfl := Option.some.inj hf
      exact qi_vret hC hQ hK dX3_moves_49
set_option maxRecDepth 100000 in
set_option maxHeartbeats 4000000 in
theorem t_X1_isOne_36 {X : qaX} {l : Launch} {Y : qaY} {fin : Int32} {m : qaM} {i0 : Nat} (hC : QC X l Y cX1_isOne RX1 4 2) (hQ : QRi X Y (some .boolean) m fin) (hi0 : qaLin i0) {z : (Int32)} (hf : b_X1_isOne_36 i0 m = some z) (hK : (qa_eq fin) z) : QG X Y 4 m 36 [] [] := by
  unfold b_X1_isOne_36 at hf
  refine qi_iconst hC dX1_isOne_36 kn_iconst_1 ?_
  refine qi_goto (tgt := 41) hC (by decide) dX1_isOne_37 ?_
  obtain rfl := Option.some.inj hf
  exact qi_iretz hC hQ (congrArg (fun w => (w, m)) hK) rfl dX1_isOne_41
set_option maxRecDepth 100000 in
set_option maxHeartbeats 4000000 in
theorem t_X1_isOne_26 {X : qaX} {l : Launch} {Y : qaY} {fin : Int32} {m : qaM} {i0 : Nat} (hC : QC X l Y cX1_isOne RX1 4 2) (hQ : QRi X Y (some .boolean) m fin) (hi0 : qaLin i0) {v2 : Int32} {v3 : Int32} {z : (Int32)} (hf : b_X1_isOne_26 i0 m v2 v3 = some z) (hK : (qa_eq fin) z) : QG X Y 4 m 26 [(2, .int v2), (3, .int v3)] [] := by
  unfold b_X1_isOne_26 at hf
  refine qi_iload_n hC 1 rfl rfl dX1_isOne_26 ?_
  refine qi_iconst hC dX1_isOne_27 kn_iconst_4 ?_
  refine qi_icmp_ne (tgt := 40) hC (by decide) dX1_isOne_28 (fun h => ?_) (fun h => ?_)
  · replace hf := qa_if_f h hf
    refine qi_iconst hC dX1_isOne_40 kn_iconst_0 ?_
    obtain rfl := Option.some.inj hf
    exact qi_iretz hC hQ (congrArg (fun w => (w, m)) hK) rfl dX1_isOne_41
  · replace hf := qa_if_t h hf
    refine qi_iload_n hC 0 rfl rfl dX1_isOne_31 ?_
    refine qi_iconst hC dX1_isOne_32 kn_iconst_2 ?_
    refine qi_icmp_ne (tgt := 40) hC (by decide) dX1_isOne_33 (fun h => ?_) (fun h => ?_)
    · replace hf := qa_if_f h hf
      refine qi_iconst hC dX1_isOne_40 kn_iconst_0 ?_
      obtain rfl := Option.some.inj hf
      exact qi_iretz hC hQ (congrArg (fun w => (w, m)) hK) rfl dX1_isOne_41
    · replace hf := qa_if_t h hf
      refine qi_sub hC [] rfl ?_
      exact t_X1_isOne_36 hC hQ hi0 hf hK
set_option maxRecDepth 100000 in
set_option maxHeartbeats 4000000 in
theorem c_X1_isOne (l : Launch) (Y : qaY) {i0 : Nat} (hi0 : qaLin i0) (m : qaM) (v1 : Int32) (v2 : Int32) (q : Int32) (hf : f_X1_isOne i0 m v1 v2 = some q) : qaMi l Y yX1_isOne cX1_isOne 4 (some .boolean) 2 [.ref (Y.2.2.1 i0), .int v1, .int v2] m m q := by
  refine qa_enti (by decide +kernel) (Nat.le_of_ble_eq_true rfl) fun X hC hQ => ?_
  have hK : qa_eq q q := rfl
  unfold f_X1_isOne at hf
  refine qi_aload_n hC 0 rfl rfl dX1_isOne_0 ?_
  refine qi_iload_n hC 1 rfl rfl dX1_isOne_1 ?_
  refine qi_iconst hC dX1_isOne_2 kn_iconst_0 ?_
  obtain ⟨q1, hq1, hf⟩ := Option.bind_eq_some_iff.mp hf
  refine qi_callVi hC (as := [.int v1, .int (0 : Int32)]) (c_X1_fact _ _ hi0 _ _ _ _ hq1) kl_X1_29 hi0.1 kc_X1_fact rfl rfl (by decide) (by decide) (Nat.le_of_ble_eq_true rfl) dX1_isOne_3 ?_
  refine qi_istore_n hC rfl (by decide) rfl dX1_isOne_6 ?_
  refine qi_iload_n hC 0 rfl rfl dX1_isOne_7 ?_
  refine qi_iload_n hC 3 rfl rfl dX1_isOne_8 ?_
  refine qi_icmp_eq (tgt := 36) hC (by decide) dX1_isOne_9 (fun h => ?_) (fun h => ?_)
  · replace hf := qa_if_t h hf
    refine qi_sub hC [] rfl ?_
    exact t_X1_isOne_36 hC hQ hi0 hf hK
  · replace hf := qa_if_f h hf
    refine qi_iload_n hC 3 rfl rfl dX1_isOne_12 ?_
    refine qi_if_eq (tgt := 36) hC (by decide) dX1_isOne_13 (fun h => ?_) (fun h => ?_)
    · replace hf := qa_if_t h hf
      refine qi_sub hC [] rfl ?_
      exact t_X1_isOne_36 hC hQ hi0 hf hK
    · replace hf := qa_if_f h hf
      refine qi_iload_n hC 0 rfl rfl dX1_isOne_16 ?_
      refine qi_iconst hC dX1_isOne_17 kn_iconst_3 ?_
      refine qi_icmp_ne (tgt := 26) hC (by decide) dX1_isOne_18 (fun h => ?_) (fun h => ?_)
      · replace hf := qa_if_f h hf
        refine qi_sub hC [3, 0] rfl ?_
        exact t_X1_isOne_26 hC hQ hi0 hf hK
      · replace hf := qa_if_t h hf
        refine qi_iload_n hC 3 rfl rfl dX1_isOne_21 ?_
        refine qi_iconst hC dX1_isOne_22 kn_iconst_1 ?_
        refine qi_icmp_eq (tgt := 36) hC (by decide) dX1_isOne_23 (fun h => ?_) (fun h => ?_)
        · replace hf := qa_if_t h hf
          refine qi_sub hC [] rfl ?_
          exact t_X1_isOne_36 hC hQ hi0 hf hK
        · replace hf := qa_if_f h hf
          refine qi_sub hC [3, 0] rfl ?_
          exact t_X1_isOne_26 hC hQ hi0 hf hK
