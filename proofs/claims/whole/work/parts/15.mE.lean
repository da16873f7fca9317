/-! THE MACHINE DOES WHAT THE FUNCTIONS SAY, laid by program -/
set_option maxRecDepth 100000 in
set_option maxHeartbeats 4000000 in
theorem c_X7_holds (l : Launch) (Y : qaY) (m : qaM) (v1 : Int32) (q : qaM) (hf : f_X7_holds m v1 = some q) : qaMv l Y yX7_holds cX7_holds 2 1 [.ref (Y.2.2.1 36), .int v1] m q := by
  refine qa_entv (by decide +kernel) (Nat.le_of_ble_eq_true rfl) fun X hC hQ => ?_
  have hK : qa_eq q q := rfl
  unfold f_X7_holds at hf
  refine qi_aload_n hC 0 rfl rfl dX7_holds_0 ?_
  refine qi_getr hC kf_X7_58 sh_36 rfl dX7_holds_1 ?_
  refine qi_aload_n hC 0 rfl rfl dX7_holds_4 ?_
  refine qi_geti hC kf_X7_129 sh_36 rfl dX7_holds_5 ?_
  refine qi_iload_n hC 1 rfl rfl dX7_holds_8 ?_
  obtain ⟨h1, hf⟩ := qa_ck_e hf
  obtain ⟨m2, em2, hf⟩ := qa_lt_e hf
  refine qi_iast hC rfl em2 sh_53 (qa_in_v h1) dX7_holds_9 ?_
  refine qi_aload_n hC 0 rfl rfl dX7_holds_10 ?_
  refine qi_dup hC rfl dX7_holds_11 ?_
  refine qi_geti hC kf_X7_129 sh_36 rfl dX7_holds_12 ?_
  refine qi_iconst hC dX7_holds_15 kn_iconst_1 ?_
  refine qi_iadd hC dX7_holds_16 ?_
  obtain ⟨m3, em3, hf⟩ := qa_lt_e hf
  refine qi_puti hC em3 kp_X7_129 sh_36 rfl rfl rfl dX7_holds_17 ?_
  obtain rfl := Option.some.inj hf
  exact qi_vret hC hQ hK dX7_holds_20
set_option maxRecDepth 100000 in
set_option maxHeartbeats 4000000 in
theorem c_X7_rank (l : Launch) (Y : qaY) (m : qaM) (v0 : Int32) (q : Int32) (hf : f_X7_rank m v0 = some q) : qaMi l Y yX7_rank cX7_rank 1 (some .int) 1 [.int v0] m m q := by
  refine qa_enti (by decide +kernel) (Nat.le_of_ble_eq_true rfl) fun X hC hQ => ?_
  have hK : qa_eq q q := rfl
  unfold f_X7_rank at hf
  refine qi_iload_n hC 0 rfl rfl dX7_rank_0 ?_
  refine qi_if_ne (tgt := 8) hC (by decide) dX7_rank_1 (fun h => ?_) (fun h => ?_)
  · replace hf := qa_if_f h hf
    refine qi_iload_n hC 0 rfl rfl dX7_rank_8 ?_
    refine qi_bipush hC dX7_rank_9 kn_bipush_11 ?_
    refine qi_icmp_ne (tgt := 18) hC (by decide) dX7_rank_11 (fun h => ?_) (fun h => ?_)
    · replace hf := qa_if_f h hf
      refine qi_iload_n hC 0 rfl rfl dX7_rank_18 ?_
      refine qi_bipush hC dX7_rank_19 kn_bipush_12 ?_
      refine qi_icmp_ne (tgt := 28) hC (by decide) dX7_rank_21 (fun h => ?_) (fun h => ?_)
      · replace hf := qa_if_f h hf
        refine qi_iload_n hC 0 rfl rfl dX7_rank_28 ?_
        refine qi_bipush hC dX7_rank_29 kn_bipush_13 ?_
        refine qi_icmp_ne (tgt := 38) hC (by decide) dX7_rank_31 (fun h => ?_) (fun h => ?_)
        · replace hf := qa_if_f h hf
          refine qi_iload_n hC 0 rfl rfl dX7_rank_38 ?_
          refine qi_bipush hC dX7_rank_39 kn_bipush_15 ?_
          refine qi_icmp_gt (tgt := 48) hC (by decide) dX7_rank_41 (fun h => ?_) (fun h => ?_)
          · replace hf := qa_if_t h hf
            refine qi_iload_n hC 0 rfl rfl dX7_rank_48 ?_
            refine qi_bipush hC dX7_rank_49 kn_bipush_17 ?_
            refine qi_icmp_gt (tgt := 58) hC (by decide) dX7_rank_51 (fun h => ?_) (fun h => ?_)
            · replace hf := qa_if_t h hf
              refine qi_iload_n hC 0 rfl rfl dX7_rank_58 ?_
              refine qi_bipush hC dX7_rank_59 kn_bipush_18 ?_
              refine qi_icmp_ne (tgt := 69) hC (by decide) dX7_rank_61 (fun h => ?_) (fun h => ?_)
              · replace hf := qa_if_f h hf
                refine qi_bipush hC dX7_rank_69 kn_bipush_7 ?_
                obtain rfl := Option.some.inj hf
                exact qi_ireti hC hQ (congrArg (fun w => (w, m)) hK) dX7_rank_71
              · replace hf := qa_if_t h hf
                refine qi_bipush hC dX7_rank_64 kn_bipush_6 ?_
                refine qi_goto (tgt := 71) hC (by decide) dX7_rank_66 ?_
                obtain rfl := Option.some.inj hf
                exact qi_ireti hC hQ (congrArg (fun w => (w, m)) hK) dX7_rank_71
            · replace hf := qa_if_f h hf
              refine qi_iconst hC dX7_rank_54 kn_iconst_5 ?_
              refine qi_goto (tgt := 71) hC (by decide) dX7_rank_55 ?_
              obtain rfl := Option.some.inj hf
              exact qi_ireti hC hQ (congrArg (fun w => (w, m)) hK) dX7_rank_71
          · replace hf := qa_if_f h hf
            refine qi_iconst hC dX7_rank_44 kn_iconst_4 ?_
            refine qi_goto (tgt := 71) hC (by decide) dX7_rank_45 ?_
            obtain rfl := Option.some.inj hf
            exact qi_ireti hC hQ (congrArg (fun w => (w, m)) hK) dX7_rank_71
        · replace hf := qa_if_t h hf
          refine qi_iconst hC dX7_rank_34 kn_iconst_3 ?_
          refine qi_goto (tgt := 71) hC (by decide) dX7_rank_35 ?_
          obtain rfl := Option.some.inj hf
          exact qi_ireti hC hQ (congrArg (fun w => (w, m)) hK) dX7_rank_71
      · replace hf := qa_if_t h hf
        refine qi_iconst hC dX7_rank_24 kn_iconst_2 ?_
        refine qi_goto (tgt := 71) hC (by decide) dX7_rank_25 ?_
        obtain rfl := Option.some.inj hf
        exact qi_ireti hC hQ (congrArg (fun w => (w, m)) hK) dX7_rank_71
    · replace hf := qa_if_t h hf
      refine qi_iconst hC dX7_rank_14 kn_iconst_1 ?_
      refine qi_goto (tgt := 71) hC (by decide) dX7_rank_15 ?_
      obtain rfl := Option.some.inj hf
      exact qi_ireti hC hQ (congrArg (fun w => (w, m)) hK) dX7_rank_71
  · replace hf := qa_if_t h hf
    refine qi_iconst hC dX7_rank_4 kn_iconst_0 ?_
    refine qi_goto (tgt := 71) hC (by decide) dX7_rank_5 ?_
    obtain rfl := Option.some.inj hf
    exact qi_ireti hC hQ (congrArg (fun w => (w, m)) hK) dX7_rank_71
set_option maxRecDepth 100000 in
set_option maxHeartbeats 4000000 in
theorem c_X7_puts (l : Launch) (Y : qaY) (m : qaM) (v1 : Int32) (q : qaM) (hf : f_X7_puts m v1 = some q) : qaMv l Y yX7_puts cX7_puts 2 1 [.ref (Y.2.2.1 36), .int v1] m q := by
  refine qa_entv (by decide +kernel) (Nat.le_of_ble_eq_true rfl) fun X hC hQ => ?_
  have hK : qa_eq q q := rfl
  unfold f_X7_puts at hf
  refine qi_aload_n hC 0 rfl rfl dX7_puts_0 ?_
  refine qi_getr hC kf_X7_28 sh_36 rfl dX7_puts_1 ?_
  refine qi_sipush hC dX7_puts_4 kn_sipush_200 ?_
  refine qi_aload_n hC 0 rfl rfl dX7_puts_7 ?_
  refine qi_geti hC kf_X7_100 sh_36 rfl dX7_puts_8 ?_
  refine qi_imul hC dX7_puts_11 ?_
  refine qi_aload_n hC 0 rfl rfl dX7_puts_12 ?_
  refine qi_geti hC kf_X7_126 sh_36 rfl dX7_puts_13 ?_
  refine qi_iadd hC dX7_puts_16 ?_
  refine qi_iload_n hC 1 rfl rfl dX7_puts_17 ?_
  obtain ⟨h1, hf⟩ := qa_ck_e hf
  obtain ⟨m2, em2, hf⟩ := qa_lt_e hf
  refine qi_iast hC rfl em2 sh_43 (qa_in_v h1) dX7_puts_18 ?_
  refine qi_aload_n hC 0 rfl rfl dX7_puts_19 ?_
  refine qi_dup hC rfl dX7_puts_20 ?_
  refine qi_geti hC kf_X7_126 sh_36 rfl dX7_puts_21 ?_
  refine qi_iconst hC dX7_puts_24 kn_iconst_1 ?_
  refine qi_iadd hC dX7_puts_25 ?_
  obtain ⟨m3, em3, hf⟩ := qa_lt_e hf
  refine qi_puti hC em3 kp_X7_126 sh_36 rfl rfl rfl dX7_puts_26 ?_
  obtain rfl := Option.some.inj hf
  exact qi_vret hC hQ hK dX7_puts_29
set_option maxRecDepth 100000 in
set_option maxHeartbeats 4000000 in
theorem t_X7_unwinds_67 {X : qaX} {l : Launch} {Y : qaY} {fin : qaM} (hC : QC X l Y cX7_unwinds RX7 3 2) (hQ : QRv X Y fin) {m : qaM} {v1 : Int32} {v2 : Int32} {s1 : Int32} {s2 : Int32} {z : ((qaM) ⊕ (qaM))} (hf : b_X7_unwinds_67 m v1 v2 s1 s2 = some z) (hK : (qa_K (fun s => QG X Y 3 s 0 [(0, .ref (Y.2.2.1 36)), (1, .int v1)] []) (qa_eq fin)) z) : QG X Y 3 m 67 [(0, .ref (Y.2.2.1 36)), (1, .int v1), (2, .int v2)] [.int s2, .int s1, .ref (Y.2.2.1 36)] := by
  unfold b_X7_unwinds_67 at hf
  refine qi_isub hC dX7_unwinds_67 ?_
  obtain ⟨m6, em6, hf⟩ := qa_lt_e hf
  refine qi_puti hC em6 kp_X7_136 sh_36 rfl rfl rfl dX7_unwinds_68 ?_
  refine qi_aload_n hC 0 rfl rfl dX7_unwinds_71 ?_
  refine qi_iload_n hC 2 rfl rfl dX7_unwinds_72 ?_
  obtain ⟨q7, hq7, hf⟩ := Option.bind_eq_some_iff.mp hf
  refine qi_callVv hC (as := [.int v2]) (c_X7_puts _ _ _ _ _ hq7) kl_X7_139 sh_36 kc_X7_puts rfl rfl (by decide) (by decide) (Nat.le_of_ble_eq_true rfl) dX7_unwinds_73 ?_
  refine qi_goto (tgt := 0) hC (by decide) dX7_unwinds_76 ?_
  obtain rfl := Option.some.inj hf
  refine qi_sub hC [0, 1] rfl ?_
  exact hK
set_option maxRecDepth 100000 in
set_option maxHeartbeats 4000000 in
theorem t_X7_unwinds_62 {X : qaX} {l : Launch} {Y : qaY} {fin : qaM} (hC : QC X l Y cX7_unwinds RX7 3 2) (hQ : QRv X Y fin) {m : qaM} {v1 : Int32} {v2 : Int32} {s1 : Int32} {z : ((qaM) ⊕ (qaM))} (hf : b_X7_unwinds_62 m v1 v2 s1 = some z) (hK : (qa_K (fun s => QG X Y 3 s 0 [(0, .ref (Y.2.2.1 36)), (1, .int v1)] []) (qa_eq fin)) z) : QG X Y 3 m 62 [(0, .ref (Y.2.2.1 36)), (1, .int v1), (2, .int v2)] [.int s1, .ref (Y.2.2.1 36)] := by
  unfold b_X7_unwinds_62 at hf
  refine qi_iconst hC dX7_unwinds_62 kn_iconst_1 ?_
  refine qi_goto (tgt := 67) hC (by decide) dX7_unwinds_63 ?_
  exact t_X7_unwinds_67 hC hQ hf hK
set_option maxRecDepth 100000 in
set_option maxHeartbeats 4000000 in
theorem t_X7_unwinds_0 {X : qaX} {l : Launch} {Y : qaY} {fin : qaM} (hC : QC X l Y cX7_unwinds RX7 3 2) (hQ : QRv X Y fin) {m : qaM} {v1 : Int32} {z : ((qaM) ⊕ (qaM))} (hf : b_X7_unwinds_0 m v1 = some z) (hK : (qa_K (fun s => QG X Y 3 s 0 [(0, .ref (Y.2.2.1 36)), (1, .int v1)] []) (qa_eq fin)) z) : QG X Y 3 m 0 [(0, .ref (Y.2.2.1 36)), (1, .int v1)] [] := by
  unfold b_X7_unwinds_0 at hf
  refine qi_aload_n hC 0 rfl rfl dX7_unwinds_0 ?_
  refine qi_geti hC kf_X7_129 sh_36 rfl dX7_unwinds_1 ?_
  refine qi_if_le (tgt := 79) hC (by decide) dX7_unwinds_4 (fun h => ?_) (fun h => ?_)
  · replace hf := qa_if_t h hf
    obtain ⟨z, rfl, hg⟩ := qa_inr_e hf; have hf := hg
    obtain rfl := Option.some.inj hf
    exact qi_vret hC hQ hK dX7_unwinds_79
  · replace hf := qa_if_f h hf
    refine qi_aload_n hC 0 rfl rfl dX7_unwinds_7 ?_
    refine qi_getr hC kf_X7_58 sh_36 rfl dX7_unwinds_8 ?_
    refine qi_aload_n hC 0 rfl rfl dX7_unwinds_11 ?_
    refine qi_geti hC kf_X7_129 sh_36 rfl dX7_unwinds_12 ?_
    refine qi_iconst hC dX7_unwinds_15 kn_iconst_1 ?_
    refine qi_isub hC dX7_unwinds_16 ?_
    obtain ⟨h1, hf⟩ := qa_ck_e hf
    refine qi_iald hC rfl sh_53 (qa_in_v h1) dX7_unwinds_17 ?_
    obtain ⟨q2, hq2, hf⟩ := Option.bind_eq_some_iff.mp hf
    refine qi_callSi hC (as := [.int (m 53 ((m 36 32) - (1 : Int32)).toNatClampNeg)]) (c_X7_rank _ _ _ _ _ hq2) kl_X7_132 kc_X7_rank rfl rfl (by decide) (by decide) (Nat.le_of_ble_eq_true rfl) dX7_unwinds_18 ?_
    refine qi_iload_n hC 1 rfl rfl dX7_unwinds_21 ?_
    refine qi_icmp_lt (tgt := 79) hC (by decide) dX7_unwinds_22 (fun h => ?_) (fun h => ?_)
    · replace hf := qa_if_t h hf
      obtain ⟨z, rfl, hg⟩ := qa_inr_e hf; have hf := hg
      obtain rfl := Option.some.inj hf
      exact qi_vret hC hQ hK dX7_unwinds_79
    · replace hf := qa_if_f h hf
      refine qi_aload_n hC 0 rfl rfl dX7_unwinds_25 ?_
      refine qi_dup hC rfl dX7_unwinds_26 ?_
      refine qi_geti hC kf_X7_129 sh_36 rfl dX7_unwinds_27 ?_
      refine qi_iconst hC dX7_unwinds_30 kn_iconst_1 ?_
      refine qi_isub hC dX7_unwinds_31 ?_
      obtain ⟨m3, em3, hf⟩ := qa_lt_e hf
      refine qi_puti hC em3 kp_X7_129 sh_36 rfl rfl rfl dX7_unwinds_32 ?_
      refine qi_aload_n hC 0 rfl rfl dX7_unwinds_35 ?_
      refine qi_getr hC kf_X7_58 sh_36 rfl dX7_unwinds_36 ?_
      refine qi_aload_n hC 0 rfl rfl dX7_unwinds_39 ?_
      refine qi_geti hC kf_X7_129 sh_36 rfl dX7_unwinds_40 ?_
      obtain ⟨h4, hf⟩ := qa_ck_e hf
      refine qi_iald hC rfl sh_53 (qa_in_v h4) dX7_unwinds_43 ?_
      obtain ⟨x5, ex5, hf⟩ := qa_lt_e hf
      refine qi_nmi hC ex5 ?_
      refine qi_istore_n hC rfl (by decide) rfl dX7_unwinds_44 ?_
      refine qi_aload_n hC 1 rfl rfl dX7_unwinds_45 ?_
      refine qi_dup hC rfl dX7_unwinds_46 ?_
      refine qi_geti hC kf_X7_136 sh_36 rfl dX7_unwinds_47 ?_
      refine qi_iload_n hC 0 rfl rfl dX7_unwinds_50 ?_
      refine qi_bipush hC dX7_unwinds_51 kn_bipush_13 ?_
      refine qi_icmp_eq (tgt := 62) hC (by decide) dX7_unwinds_53 (fun h => ?_) (fun h => ?_)
      · replace hf := qa_if_t h hf
        refine qi_sub hC [1, 2, 0] rfl ?_
        exact t_X7_unwinds_62 hC hQ hf hK
      · replace hf := qa_if_f h hf
        refine qi_iload_n hC 0 rfl rfl dX7_unwinds_56 ?_
        refine qi_bipush hC dX7_unwinds_57 kn_bipush_19 ?_
        refine qi_icmp_ne (tgt := 66) hC (by decide) dX7_unwinds_59 (fun h => ?_) (fun h => ?_)
        · replace hf := qa_if_f h hf
          refine qi_iconst hC dX7_unwinds_66 kn_iconst_0 ?_
          refine qi_sub hC [1, 2, 0] rfl ?_
          exact t_X7_unwinds_67 hC hQ hf hK
        · replace hf := qa_if_t h hf
          refine qi_sub hC [1, 2, 0] rfl ?_
          exact t_X7_unwinds_62 hC hQ hf hK
set_option maxRecDepth 100000 in
set_option maxHeartbeats 4000000 in
theorem tn_X7_unwinds_0 {X : qaX} {l : Launch} {Y : qaY} {fin : qaM} (hC : QC X l Y cX7_unwinds RX7 3 2) (hQ : QRv X Y fin) {v1 : Int32} {z : (qaM)} (hK : (qa_eq fin) z) : ∀ (n : Nat) (s : qaM), qa_lp (fun s => b_X7_unwinds_0 s v1) n s = some z → QG X Y 3 s 0 [(0, .ref (Y.2.2.1 36)), (1, .int v1)] [] := by
  intro n
  induction n with
  | zero => intro s hf; cases hf
  | succ n ih =>
    intro s hf
    obtain ⟨y, hy, hf⟩ := qa_lp_e hf
    refine t_X7_unwinds_0 hC hQ hy ?_
    rcases hf with ⟨s', rfl, hf⟩ | rfl
    · exact ih s' hf
    · exact hK
set_option maxRecDepth 100000 in
set_option maxHeartbeats 4000000 in
theorem tl_X7_unwinds_0 {X : qaX} {l : Launch} {Y : qaY} {fin : qaM} (hC : QC X l Y cX7_unwinds RX7 3 2) (hQ : QRv X Y fin) {m : qaM} {v1 : Int32} {z : (qaM)} (hf : lp_X7_unwinds_0 m v1 = some z) (hK : (qa_eq fin) z) : QG X Y 3 m 0 [(0, .ref (Y.2.2.1 36)), (1, .int v1)] [] :=
  tn_X7_unwinds_0 hC hQ hK qa_F m hf
set_option maxRecDepth 100000 in
set_option maxHeartbeats 4000000 in
theorem c_X7_unwinds (l : Launch) (Y : qaY) (m : qaM) (v1 : Int32) (q : qaM) (hf : f_X7_unwinds m v1 = some q) : qaMv l Y yX7_unwinds cX7_unwinds 3 2 [.ref (Y.2.2.1 36), .int v1] m q := by
  refine qa_entv (by decide +kernel) (Nat.le_of_ble_eq_true rfl) fun X hC hQ => ?_
  have hK : qa_eq q q := rfl
  unfold f_X7_unwinds at hf
  exact tl_X7_unwinds_0 hC hQ hf hK
set_option maxRecDepth 100000 in
set_option maxHeartbeats 4000000 in
theorem t_X7_between_55 {X : qaX} {l : Launch} {Y : qaY} {fin : Int32 × qaM} (hC : QC X l Y cX7_between RX7 2 3) (hQ : QRi X Y (some .boolean) fin.2 fin.1) {m : qaM} {v1 : Int32} {z : (Int32 × qaM)} (hf : b_X7_between_55 m v1 = some z) (hK : (qa_eq fin) z) : QG X Y 2 m 55 [(0, .ref (Y.2.2.1 36)), (1, .int v1)] [] := by
  unfold b_X7_between_55 at hf
  refine qi_aload_n hC 0 rfl rfl dX7_between_55 ?_
  refine qi_iload_n hC 1 rfl rfl dX7_between_56 ?_
  obtain ⟨q5, hq5, hf⟩ := Option.bind_eq_some_iff.mp hf
  refine qi_callVv hC (as := [.int v1]) (c_X7_holds _ _ _ _ _ hq5) kl_X7_143 sh_36 kc_X7_holds rfl rfl (by decide) (by decide) (Nat.le_of_ble_eq_true rfl) dX7_between_57 ?_
  refine qi_iconst hC dX7_between_60 kn_iconst_1 ?_
  obtain rfl := Option.some.inj hf
  exact qi_iretz hC hQ hK rfl dX7_between_61
set_option maxRecDepth 100000 in
set_option maxHeartbeats 4000000 in
theorem t_X7_between_17 {X : qaX} {l : Launch} {Y : qaY} {fin : Int32 × qaM} (hC : QC X l Y cX7_between RX7 2 3) (hQ : QRi X Y (some .boolean) fin.2 fin.1) {m : qaM} {v1 : Int32} {s1 : Int32} {z : (Int32 × qaM)} (hf : b_X7_between_17 m v1 s1 = some z) (hK : (qa_eq fin) z) : QG X Y 2 m 17 [(0, .ref (Y.2.2.1 36)), (1, .int v1)] [.int s1, .ref (Y.2.2.1 36)] := by
  unfold b_X7_between_17 at hf
  obtain ⟨q3, hq3, hf⟩ := Option.bind_eq_some_iff.mp hf
  refine qi_callVv hC (as := [.int s1]) (c_X7_unwinds _ _ _ _ _ hq3) kl_X7_146 sh_36 kc_X7_unwinds rfl rfl (by decide) (by decide) (Nat.le_of_ble_eq_true rfl) dX7_between_17 ?_
  refine qi_iload_n hC 1 rfl rfl dX7_between_20 ?_
  obtain ⟨q4, hq4, hf⟩ := Option.bind_eq_some_iff.mp hf
  refine qi_callSi hC (as := [.int v1]) (c_X7_rank _ _ _ _ _ hq4) kl_X7_132 kc_X7_rank rfl rfl (by decide) (by decide) (Nat.le_of_ble_eq_true rfl) dX7_between_21 ?_
  refine qi_iconst hC dX7_between_24 kn_iconst_4 ?_
  refine qi_icmp_ne (tgt := 55) hC (by decide) dX7_between_25 (fun h => ?_) (fun h => ?_)
  · replace hf := qa_if_f h hf
    exact t_X7_between_55 hC hQ hf hK
  · replace hf := qa_if_t h hf
    refine qi_aload_n hC 0 rfl rfl dX7_between_28 ?_
    refine qi_geti hC kf_X7_129 sh_36 rfl dX7_between_29 ?_
    refine qi_if_le (tgt := 55) hC (by decide) dX7_between_32 (fun h => ?_) (fun h => ?_)
    · replace hf := qa_if_t h hf
      exact t_X7_between_55 hC hQ hf hK
    · replace hf := qa_if_f h hf
      refine qi_aload_n hC 0 rfl rfl dX7_between_35 ?_
      refine qi_getr hC kf_X7_58 sh_36 rfl dX7_between_36 ?_
      refine qi_aload_n hC 0 rfl rfl dX7_between_39 ?_
      refine qi_geti hC kf_X7_129 sh_36 rfl dX7_between_40 ?_
      refine qi_iconst hC dX7_between_43 kn_iconst_1 ?_
      refine qi_isub hC dX7_between_44 ?_
      obtain ⟨h6, hf⟩ := qa_ck_e hf
      refine qi_iald hC rfl sh_53 (qa_in_v h6) dX7_between_45 ?_
      obtain ⟨q7, hq7, hf⟩ := Option.bind_eq_some_iff.mp hf
      refine qi_callSi hC (as := [.int (q3 53 ((q3 36 32) - (1 : Int32)).toNatClampNeg)]) (c_X7_rank _ _ _ _ _ hq7) kl_X7_132 kc_X7_rank rfl rfl (by decide) (by decide) (Nat.le_of_ble_eq_true rfl) dX7_between_46 ?_
      refine qi_iconst hC dX7_between_49 kn_iconst_4 ?_
      refine qi_icmp_ne (tgt := 55) hC (by decide) dX7_between_50 (fun h => ?_) (fun h => ?_)
      · replace hf := qa_if_f h hf
        exact t_X7_between_55 hC hQ hf hK
      · replace hf := qa_if_t h hf
        refine qi_iconst hC dX7_between_53 kn_iconst_0 ?_
        obtain rfl := Option.some.inj hf
        exact qi_iretz hC hQ hK rfl dX7_between_54
set_option maxRecDepth 100000 in
set_option maxHeartbeats 4000000 in
theorem c_X7_between (l : Launch) (Y : qaY) (m : qaM) (v1 : Int32) (q : Int32 × qaM) (hf : f_X7_between m v1 = some q) : qaMi l Y yX7_between cX7_between 2 (some .boolean) 3 [.ref (Y.2.2.1 36), .int v1] m q.2 q.1 := by
  refine qa_enti (by decide +kernel) (Nat.le_of_ble_eq_true rfl) fun X hC hQ => ?_
  have hK : qa_eq q q := rfl
  unfold f_X7_between at hf
  refine qi_aload_n hC 0 rfl rfl dX7_between_0 ?_
  refine qi_iload_n hC 1 rfl rfl dX7_between_1 ?_
  obtain ⟨q1, hq1, hf⟩ := Option.bind_eq_some_iff.mp hf
  refine qi_callSi hC (as := [.int v1]) (c_X7_rank _ _ _ _ _ hq1) kl_X7_132 kc_X7_rank rfl rfl (by decide) (by decide) (Nat.le_of_ble_eq_true rfl) dX7_between_2 ?_
  refine qi_iconst hC dX7_between_5 kn_iconst_4 ?_
  refine qi_icmp_ne (tgt := 13) hC (by decide) dX7_between_6 (fun h => ?_) (fun h => ?_)
  · replace hf := qa_if_f h hf
    refine qi_iload_n hC 1 rfl rfl dX7_between_13 ?_
    obtain ⟨q2, hq2, hf⟩ := Option.bind_eq_some_iff.mp hf
    refine qi_callSi hC (as := [.int v1]) (c_X7_rank _ _ _ _ _ hq2) kl_X7_132 kc_X7_rank rfl rfl (by decide) (by decide) (Nat.le_of_ble_eq_true rfl) dX7_between_14 ?_
    exact t_X7_between_17 hC hQ hf hK
  · replace hf := qa_if_t h hf
    refine qi_iconst hC dX7_between_9 kn_iconst_5 ?_
    refine qi_goto (tgt := 17) hC (by decide) dX7_between_10 ?_
    exact t_X7_between_17 hC hQ hf hK
set_option maxRecDepth 100000 in
set_option maxHeartbeats 4000000 in
theorem c_X7_in (l : Launch) (Y : qaY) (m : qaM) (v0 : Int32) (v1 : Int32) (v2 : Int32) (q : Int32) (hf : f_X7_in m v0 v1 v2 = some q) : qaMi l Y yX7_in cX7_in 3 (some .boolean) 1 [.int v0, .int v1, .int v2] m m q := by
  refine qa_enti (by decide +kernel) (Nat.le_of_ble_eq_true rfl) fun X hC hQ => ?_
  have hK : qa_eq q q := rfl
  unfold f_X7_in at hf
  refine qi_iload_n hC 0 rfl rfl dX7_in_0 ?_
  refine qi_iload_n hC 1 rfl rfl dX7_in_1 ?_
  refine qi_icmp_lt (tgt := 14) hC (by decide) dX7_in_2 (fun h => ?_) (fun h => ?_)
  · replace hf := qa_if_t h hf
    refine qi_iconst hC dX7_in_14 kn_iconst_0 ?_
    obtain rfl := Option.some.inj hf
    exact qi_iretz hC hQ (congrArg (fun w => (w, m)) hK) rfl dX7_in_15
  · replace hf := qa_if_f h hf
    refine qi_iload_n hC 0 rfl rfl dX7_in_5 ?_
    refine qi_iload_n hC 2 rfl rfl dX7_in_6 ?_
    refine qi_icmp_gt (tgt := 14) hC (by decide) dX7_in_7 (fun h => ?_) (fun h => ?_)
    · replace hf := qa_if_t h hf
      refine qi_iconst hC dX7_in_14 kn_iconst_0 ?_
      obtain rfl := Option.some.inj hf
      exact qi_iretz hC hQ (congrArg (fun w => (w, m)) hK) rfl dX7_in_15
    · replace hf := qa_if_f h hf
      refine qi_iconst hC dX7_in_10 kn_iconst_1 ?_
      refine qi_goto (tgt := 15) hC (by decide) dX7_in_11 ?_
      obtain rfl := Option.some.inj hf
      exact qi_iretz hC hQ (congrArg (fun w => (w, m)) hK) rfl dX7_in_15
set_option maxRecDepth 100000 in
set_option maxHeartbeats 4000000 in
theorem t_X7_wordFrom_88 {X : qaX} {l : Launch} {Y : qaY} {fin : Int32} {m : qaM} (hC : QC X l Y cX7_wordFrom RX7 6 1) (hQ : QRi X Y (some .int) m fin) {v1 : Int32} {v2 : Int32} {v3 : Int32} {v4 : Int32} {z : ((Int32) ⊕ (Int32))} (hf : b_X7_wordFrom_88 m v1 v2 v3 v4 = some z) (hK : (qa_K (fun s => QG X Y 6 m 2 [(0, .ref (Y.2.2.1 36)), (1, .int v1), (2, .int v2), (3, .int s)] []) (qa_eq fin)) z) : QG X Y 6 m 88 [(0, .ref (Y.2.2.1 36)), (1, .int v1), (2, .int v2), (3, .int v3), (4, .int v4)] [] := by
  unfold b_X7_wordFrom_88 at hf
  refine qi_iload hC 4 rfl dX7_wordFrom_88 ?_
  refine qi_if_eq (tgt := 95) hC (by decide) dX7_wordFrom_90 (fun h => ?_) (fun h => ?_)
  · replace hf := qa_if_t h hf
    obtain ⟨x1, ex1, hf⟩ := qa_lt_e hf
    refine qi_iinc hC (n := 1) (v := x1) 3 rfl ((congrArg (fun q => v3 + q) kn_iconst_1).trans ex1.symm) (by decide) rfl dX7_wordFrom_95 ?_
    refine qi_goto (tgt := 2) hC (by decide) dX7_wordFrom_98 ?_
    obtain rfl := Option.some.inj hf
    refine qi_sub hC [1, 2, 3, 0] rfl ?_
    exact hK
  · replace hf := qa_if_f h hf
    refine qi_iload_n hC 3 rfl rfl dX7_wordFrom_93 ?_
    obtain ⟨z, rfl, hg⟩ := qa_inr_e hf; have hf := hg
    obtain rfl := Option.some.inj hf
    exact qi_ireti hC hQ (congrArg (fun w => (w, m)) hK) dX7_wordFrom_94
set_option maxRecDepth 100000 in
set_option maxHeartbeats 4000000 in
theorem t_X7_wordFrom_80 {X : qaX} {l : Launch} {Y : qaY} {fin : Int32} {m : qaM} (hC : QC X l Y cX7_wordFrom RX7 6 1) (hQ : QRi X Y (some .int) m fin) {v1 : Int32} {v2 : Int32} {v3 : Int32} {v5 : Int32} {s0 : Int32} {z : ((Int32 × Int32) ⊕ ((Int32) ⊕ (Int32)))} (hf : b_X7_wordFrom_80 m v1 v2 v3 v5 s0 = some z) (hK : (qa_K (fun s => QG X Y 6 m 26 [(0, .ref (Y.2.2.1 36)), (1, .int v1), (2, .int v2), (3, .int v3), (4, .int s.1), (5, .int s.2)] []) (qa_K (fun s => QG X Y 6 m 2 [(0, .ref (Y.2.2.1 36)), (1, .int v1), (2, .int v2), (3, .int s)] []) (qa_eq fin))) z) : QG X Y 6 m 80 [(0, .ref (Y.2.2.1 36)), (1, .int v1), (2, .int v2), (3, .int v3), (5, .int v5)] [.int s0] := by
  unfold b_X7_wordFrom_80 at hf
  refine qi_istore hC (by decide) rfl dX7_wordFrom_80 ?_
  obtain ⟨x3, ex3, hf⟩ := qa_lt_e hf
  refine qi_iinc hC (n := 1) (v := x3) 5 rfl ((congrArg (fun q => v5 + q) kn_iconst_1).trans ex3.symm) (by decide) rfl dX7_wordFrom_82 ?_
  refine qi_goto (tgt := 26) hC (by decide) dX7_wordFrom_85 ?_
  obtain rfl := Option.some.inj hf
  refine qi_sub hC [2, 3, 4, 5, 1, 0] rfl ?_
  exact hK
set_option maxRecDepth 100000 in
set_option maxHeartbeats 4000000 in
theorem t_X7_wordFrom_72 {X : qaX} {l : Launch} {Y : qaY} {fin : Int32} {m : qaM} (hC : QC X l Y cX7_wordFrom RX7 6 1) (hQ : QRi X Y (some .int) m fin) {v1 : Int32} {v2 : Int32} {v3 : Int32} {v5 : Int32} {s0 : Int32} {s1 : Int32} {z : ((Int32 × Int32) ⊕ ((Int32) ⊕ (Int32)))} (hf : b_X7_wordFrom_72 m v1 v2 v3 v5 s0 s1 = some z) (hK : (qa_K (fun s => QG X Y 6 m 26 [(0, .ref (Y.2.2.1 36)), (1, .int v1), (2, .int v2), (3, .int v3), (4, .int s.1), (5, .int s.2)] []) (qa_K (fun s => QG X Y 6 m 2 [(0, .ref (Y.2.2.1 36)), (1, .int v1), (2, .int v2), (3, .int s)] []) (qa_eq fin))) z) : QG X Y 6 m 72 [(0, .ref (Y.2.2.1 36)), (1, .int v1), (2, .int v2), (3, .int v3), (5, .int v5)] [.int s1, .int s0] := by
  unfold b_X7_wordFrom_72 at hf
  refine qi_icmp_ne (tgt := 79) hC (by decide) dX7_wordFrom_72 (fun h => ?_) (fun h => ?_)
  · replace hf := qa_if_f h hf
    refine qi_iconst hC dX7_wordFrom_79 kn_iconst_0 ?_
    exact t_X7_wordFrom_80 hC hQ hf hK
  · replace hf := qa_if_t h hf
    refine qi_iconst hC dX7_wordFrom_75 kn_iconst_1 ?_
    refine qi_goto (tgt := 80) hC (by decide) dX7_wordFrom_76 ?_
    exact t_X7_wordFrom_80 hC hQ hf hK
set_option maxRecDepth 100000 in
set_option maxHeartbeats 4000000 in
theorem t_X7_wordFrom_26 {X : qaX} {l : Launch} {Y : qaY} {fin : Int32} {m : qaM} (hC : QC X l Y cX7_wordFrom RX7 6 1) (hQ : QRi X Y (some .int) m fin) {v1 : Int32} {v2 : Int32} {v3 : Int32} {v4 : Int32} {v5 : Int32} {z : ((Int32 × Int32) ⊕ ((Int32) ⊕ (Int32)))} (hf : b_X7_wordFrom_26 m v1 v2 v3 v4 v5 = some z) (hK : (qa_K (fun s => QG X Y 6 m 26 [(0, .ref (Y.2.2.1 36)), (1, .int v1), (2, .int v2), (3, .int v3), (4, .int s.1), (5, .int s.2)] []) (qa_K (fun s => QG X Y 6 m 2 [(0, .ref (Y.2.2.1 36)), (1, .int v1), (2, .int v2), (3, .int s)] []) (qa_eq fin))) z) : QG X Y 6 m 26 [(0, .ref (Y.2.2.1 36)), (1, .int v1), (2, .int v2), (3, .int v3), (4, .int v4), (5, .int v5)] [] := by
  unfold b_X7_wordFrom_26 at hf
  refine qi_iload hC 5 rfl dX7_wordFrom_26 ?_
  refine qi_bipush hC dX7_wordFrom_28 kn_bipush_8 ?_
  refine qi_icmp_ge (tgt := 88) hC (by decide) dX7_wordFrom_30 (fun h => ?_) (fun h => ?_)
  · replace hf := qa_if_t h hf
    obtain ⟨z, rfl, hg⟩ := qa_inr_e hf; have hf := hg
    refine qi_sub hC [0, 1, 2, 3, 4] rfl ?_
    exact t_X7_wordFrom_88 hC hQ hf hK
  · replace hf := qa_if_f h hf
    refine qi_iload hC 4 rfl dX7_wordFrom_33 ?_
    refine qi_if_eq (tgt := 88) hC (by decide) dX7_wordFrom_35 (fun h => ?_) (fun h => ?_)
    · replace hf := qa_if_t h hf
      obtain ⟨z, rfl, hg⟩ := qa_inr_e hf; have hf := hg
      refine qi_sub hC [0, 1, 2, 3, 4] rfl ?_
      exact t_X7_wordFrom_88 hC hQ hf hK
    · replace hf := qa_if_f h hf
      refine qi_aload_n hC 0 rfl rfl dX7_wordFrom_38 ?_
      refine qi_getr hC kf_X7_55 sh_36 rfl dX7_wordFrom_39 ?_
      refine qi_bipush hC dX7_wordFrom_42 kn_bipush_8 ?_
      refine qi_iload_n hC 3 rfl rfl dX7_wordFrom_44 ?_
      refine qi_imul hC dX7_wordFrom_45 ?_
      refine qi_iload hC 5 rfl dX7_wordFrom_46 ?_
      refine qi_iadd hC dX7_wordFrom_48 ?_
      obtain ⟨h2, hf⟩ := qa_ck_e hf
      refine qi_iald hC rfl sh_52 (qa_in_v h2) dX7_wordFrom_49 ?_
      refine qi_iload_n hC 1 rfl rfl dX7_wordFrom_50 ?_
      refine qi_iload hC 5 rfl dX7_wordFrom_51 ?_
      refine qi_iadd hC dX7_wordFrom_53 ?_
      refine qi_iload_n hC 2 rfl rfl dX7_wordFrom_54 ?_
      refine qi_icmp_ge (tgt := 70) hC (by decide) dX7_wordFrom_55 (fun h => ?_) (fun h => ?_)
      · replace hf := qa_if_t h hf
        refine qi_bipush hC dX7_wordFrom_70 kn_bipush_32 ?_
        refine qi_sub hC [0, 1, 2, 3, 5] rfl ?_
        exact t_X7_wordFrom_72 hC hQ hf hK
      · replace hf := qa_if_f h hf
        refine qi_aload_n hC 0 rfl rfl dX7_wordFrom_58 ?_
        refine qi_getr hC kf_X7_25 sh_36 rfl dX7_wordFrom_59 ?_
        refine qi_iload_n hC 1 rfl rfl dX7_wordFrom_62 ?_
        refine qi_iload hC 5 rfl dX7_wordFrom_63 ?_
        refine qi_iadd hC dX7_wordFrom_65 ?_
        obtain ⟨h4, hf⟩ := qa_ck_e hf
        refine qi_iald hC rfl sh_42 (qa_in_v h4) dX7_wordFrom_66 ?_
        refine qi_goto (tgt := 72) hC (by decide) dX7_wordFrom_67 ?_
        refine qi_sub hC [0, 1, 2, 3, 5] rfl ?_
        exact t_X7_wordFrom_72 hC hQ hf hK
set_option maxRecDepth 100000 in
set_option maxHeartbeats 4000000 in
theorem tn_X7_wordFrom_26 {X : qaX} {l : Launch} {Y : qaY} {fin : Int32} {m : qaM} (hC : QC X l Y cX7_wordFrom RX7 6 1) (hQ : QRi X Y (some .int) m fin) {v1 : Int32} {v2 : Int32} {v3 : Int32} {z : ((Int32) ⊕ (Int32))} (hK : (qa_K (fun s => QG X Y 6 m 2 [(0, .ref (Y.2.2.1 36)), (1, .int v1), (2, .int v2), (3, .int s)] []) (qa_eq fin)) z) : ∀ (n : Nat) (s : Int32 × Int32), qa_lp (fun s => b_X7_wordFrom_26 m v1 v2 v3 s.1 s.2) n s = some z → QG X Y 6 m 26 [(0, .ref (Y.2.2.1 36)), (1, .int v1), (2, .int v2), (3, .int v3), (4, .int s.1), (5, .int s.2)] [] := by
  intro n
  induction n with
  | zero => intro s hf; cases hf
  | succ n ih =>
    intro s hf
    obtain ⟨y, hy, hf⟩ := qa_lp_e hf
    refine t_X7_wordFrom_26 hC hQ hy ?_
    rcases hf with ⟨s', rfl, hf⟩ | rfl
    · exact ih s' hf
    · exact hK
set_option maxRecDepth 100000 in
set_option maxHeartbeats 4000000 in
theorem tl_X7_wordFrom_26 {X : qaX} {l : Launch} {Y : qaY} {fin : Int32} {m : qaM} (hC : QC X l Y cX7_wordFrom RX7 6 1) (hQ : QRi X Y (some .int) m fin) {v1 : Int32} {v2 : Int32} {v3 : Int32} {v4 : Int32} {v5 : Int32} {z : ((Int32) ⊕ (Int32))} (hf : lp_X7_wordFrom_26 m v1 v2 v3 v4 v5 = some z) (hK : (qa_K (fun s => QG X Y 6 m 2 [(0, .ref (Y.2.2.1 36)), (1, .int v1), (2, .int v2), (3, .int s)] []) (qa_eq fin)) z) : QG X Y 6 m 26 [(0, .ref (Y.2.2.1 36)), (1, .int v1), (2, .int v2), (3, .int v3), (4, .int v4), (5, .int v5)] [] :=
  tn_X7_wordFrom_26 hC hQ hK qa_F (v4, v5) hf
set_option maxRecDepth 100000 in
set_option maxHeartbeats 4000000 in
theorem t_X7_wordFrom_21 {X : qaX} {l : Launch} {Y : qaY} {fin : Int32} {m : qaM} (hC : QC X l Y cX7_wordFrom RX7 6 1) (hQ : QRi X Y (some .int) m fin) {v1 : Int32} {v2 : Int32} {v3 : Int32} {s0 : Int32} {z : ((Int32) ⊕ (Int32))} (hf : b_X7_wordFrom_21 m v1 v2 v3 s0 = some z) (hK : (qa_K (fun s => QG X Y 6 m 2 [(0, .ref (Y.2.2.1 36)), (1, .int v1), (2, .int v2), (3, .int s)] []) (qa_eq fin)) z) : QG X Y 6 m 21 [(0, .ref (Y.2.2.1 36)), (1, .int v1), (2, .int v2), (3, .int v3)] [.int s0] := by
  unfold b_X7_wordFrom_21 at hf
  refine qi_istore hC (by decide) rfl dX7_wordFrom_21 ?_
  refine qi_iconst hC dX7_wordFrom_23 kn_iconst_0 ?_
  refine qi_istore hC (by decide) rfl dX7_wordFrom_24 ?_
  refine qi_sub hC [2, 3, 4, 5, 1, 0] rfl ?_
  exact tl_X7_wordFrom_26 hC hQ hf hK
set_option maxRecDepth 100000 in
set_option maxHeartbeats 4000000 in
theorem t_X7_wordFrom_2 {X : qaX} {l : Launch} {Y : qaY} {fin : Int32} {m : qaM} (hC : QC X l Y cX7_wordFrom RX7 6 1) (hQ : QRi X Y (some .int) m fin) {v1 : Int32} {v2 : Int32} {v3 : Int32} {z : ((Int32) ⊕ (Int32))} (hf : b_X7_wordFrom_2 m v1 v2 v3 = some z) (hK : (qa_K (fun s => QG X Y 6 m 2 [(0, .ref (Y.2.2.1 36)), (1, .int v1), (2, .int v2), (3, .int s)] []) (qa_eq fin)) z) : QG X Y 6 m 2 [(0, .ref (Y.2.2.1 36)), (1, .int v1), (2, .int v2), (3, .int v3)] [] := by
  unfold b_X7_wordFrom_2 at hf
  refine qi_iload_n hC 3 rfl rfl dX7_wordFrom_2 ?_
  refine qi_bipush hC dX7_wordFrom_3 kn_bipush_12 ?_
  refine qi_icmp_ge (tgt := 101) hC (by decide) dX7_wordFrom_5 (fun h => ?_) (fun h => ?_)
  · replace hf := qa_if_t h hf
    refine qi_bipush hC dX7_wordFrom_101 kn_bipush_12 ?_
    obtain ⟨z, rfl, hg⟩ := qa_inr_e hf; have hf := hg
    obtain rfl := Option.some.inj hf
    exact qi_ireti hC hQ (congrArg (fun w => (w, m)) hK) dX7_wordFrom_103
  · replace hf := qa_if_f h hf
    refine qi_iload_n hC 2 rfl rfl dX7_wordFrom_8 ?_
    refine qi_iload_n hC 1 rfl rfl dX7_wordFrom_9 ?_
    refine qi_isub hC dX7_wordFrom_10 ?_
    refine qi_bipush hC dX7_wordFrom_11 kn_bipush_8 ?_
    refine qi_icmp_gt (tgt := 20) hC (by decide) dX7_wordFrom_13 (fun h => ?_) (fun h => ?_)
    · replace hf := qa_if_t h hf
      refine qi_iconst hC dX7_wordFrom_20 kn_iconst_0 ?_
      exact t_X7_wordFrom_21 hC hQ hf hK
    · replace hf := qa_if_f h hf
      refine qi_iconst hC dX7_wordFrom_16 kn_iconst_1 ?_
      refine qi_goto (tgt := 21) hC (by decide) dX7_wordFrom_17 ?_
      exact t_X7_wordFrom_21 hC hQ hf hK
set_option maxRecDepth 100000 in
set_option maxHeartbeats 4000000 in
theorem tn_X7_wordFrom_2 {X : qaX} {l : Launch} {Y : qaY} {fin : Int32} {m : qaM} (hC : QC X l Y cX7_wordFrom RX7 6 1) (hQ : QRi X Y (some .int) m fin) {v1 : Int32} {v2 : Int32} {z : (Int32)} (hK : (qa_eq fin) z) : ∀ (n : Nat) (s : Int32), qa_lp (fun s => b_X7_wordFrom_2 m v1 v2 s) n s = some z → QG X Y 6 m 2 [(0, .ref (Y.2.2.1 36)), (1, .int v1), (2, .int v2), (3, .int s)] [] := by
  intro n
  induction n with
  | zero => intro s hf; cases hf
  | succ n ih =>
    intro s hf
    obtain ⟨y, hy, hf⟩ := qa_lp_e hf
    refine t_X7_wordFrom_2 hC hQ hy ?_
    rcases hf with ⟨s', rfl, hf⟩ | rfl
    · exact ih s' hf
    · exact hK
set_option maxRecDepth 100000 in
set_option maxHeartbeats 4000000 in
theorem tl_X7_wordFrom_2 {X : qaX} {l : Launch} {Y : qaY} {fin : Int32} {m : qaM} (hC : QC X l Y cX7_wordFrom RX7 6 1) (hQ : QRi X Y (some .int) m fin) {v1 : Int32} {v2 : Int32} {v3 : Int32} {z : (Int32)} (hf : lp_X7_wordFrom_2 m v1 v2 v3 = some z) (hK : (qa_eq fin) z) : QG X Y 6 m 2 [(0, .ref (Y.2.2.1 36)), (1, .int v1), (2, .int v2), (3, .int v3)] [] :=
  tn_X7_wordFrom_2 hC hQ hK qa_F v3 hf
set_option maxRecDepth 100000 in
set_option maxHeartbeats 4000000 in
theorem c_X7_wordFrom (l : Launch) (Y : qaY) (m : qaM) (v1 : Int32) (v2 : Int32) (q : Int32) (hf : f_X7_wordFrom m v1 v2 = some q) : qaMi l Y yX7_wordFrom cX7_wordFrom 6 (some .int) 1 [.ref (Y.2.2.1 36), .int v1, .int v2] m m q := by
  refine qa_enti (by decide +kernel) (Nat.le_of_ble_eq_true rfl) fun X hC hQ => ?_
  have hK : qa_eq q q := rfl
  unfold f_X7_wordFrom at hf
  refine qi_iconst hC dX7_wordFrom_0 kn_iconst_0 ?_
  refine qi_istore_n hC rfl (by decide) rfl dX7_wordFrom_1 ?_
  refine qi_sub hC [1, 2, 3, 0] rfl ?_
  exact tl_X7_wordFrom_2 hC hQ hf hK
set_option maxRecDepth 100000 in
set_option maxHeartbeats 4000000 in
theorem t_X7_goesNext_390 {X : qaX} {l : Launch} {Y : qaY} {fin : qaM} (hC : QC X l Y cX7_goesNext RX7 3 2) (hQ : QRv X Y fin) {m : qaM} {s1 : Int32} {z : (qaM)} (hf : b_X7_goesNext_390 m s1 = some z) (hK : (qa_eq fin) z) : QG X Y 3 m 390 [(0, .ref (Y.2.2.1 36))] [.int s1, .ref (Y.2.2.1 36)] := by
  unfold b_X7_goesNext_390 at hf
  obtain ⟨m8, em8, hf⟩ := qa_lt_e hf
  refine qi_puti hC em8 kp_X7_116 sh_36 rfl rfl rfl dX7_goesNext_390 ?_
  refine qi_aload_n hC 0 rfl rfl dX7_goesNext_393 ?_
  refine qi_dup hC rfl dX7_goesNext_394 ?_
  refine qi_geti hC kf_X7_110 sh_36 rfl dX7_goesNext_395 ?_
  refine qi_iconst hC dX7_goesNext_398 kn_iconst_1 ?_
  refine qi_iadd hC dX7_goesNext_399 ?_
  obtain ⟨m9, em9, hf⟩ := qa_lt_e hf
  refine qi_puti hC em9 kp_X7_110 sh_36 rfl rfl rfl dX7_goesNext_400 ?_
  obtain rfl := Option.some.inj hf
  exact qi_vret hC hQ hK dX7_goesNext_403
set_option maxRecDepth 100000 in
set_option maxHeartbeats 4000000 in
theorem t_X7_goesNext_379 {X : qaX} {l : Launch} {Y : qaY} {fin : qaM} (hC : QC X l Y cX7_goesNext RX7 3 2) (hQ : QRv X Y fin) {m : qaM} {v1 : Int32} {s0 : Int32} {z : (qaM)} (hf : b_X7_goesNext_379 m v1 s0 = some z) (hK : (qa_eq fin) z) : QG X Y 3 m 379 [(0, .ref (Y.2.2.1 36)), (1, .int v1)] [.int s0] := by
  unfold b_X7_goesNext_379 at hf
  refine qi_istore_n hC rfl (by decide) rfl dX7_goesNext_379 ?_
  refine qi_aload_n hC 1 rfl rfl dX7_goesNext_380 ?_
  refine qi_iload_n hC 0 rfl rfl dX7_goesNext_381 ?_
  refine qi_if_eq (tgt := 389) hC (by decide) dX7_goesNext_382 (fun h => ?_) (fun h => ?_)
  · replace hf := qa_if_t h hf
    refine qi_iconst hC dX7_goesNext_389 kn_iconst_m1 ?_
    refine qi_sub hC [1] rfl ?_
    exact t_X7_goesNext_390 hC hQ hf hK
  · replace hf := qa_if_f h hf
    refine qi_iload_n hC 2 rfl rfl dX7_goesNext_385 ?_
    refine qi_goto (tgt := 390) hC (by decide) dX7_goesNext_386 ?_
    refine qi_sub hC [1] rfl ?_
    exact t_X7_goesNext_390 hC hQ hf hK
set_option maxRecDepth 100000 in
set_option maxHeartbeats 4000000 in
theorem t_X7_goesNext_374 {X : qaX} {l : Launch} {Y : qaY} {fin : qaM} (hC : QC X l Y cX7_goesNext RX7 3 2) (hQ : QRv X Y fin) {m : qaM} {v1 : Int32} {z : (qaM)} (hf : b_X7_goesNext_374 m v1 = some z) (hK : (qa_eq fin) z) : QG X Y 3 m 374 [(0, .ref (Y.2.2.1 36)), (1, .int v1)] [] := by
  unfold b_X7_goesNext_374 at hf
  refine qi_iconst hC dX7_goesNext_374 kn_iconst_1 ?_
  refine qi_goto (tgt := 379) hC (by decide) dX7_goesNext_375 ?_
  exact t_X7_goesNext_379 hC hQ hf hK
set_option maxRecDepth 100000 in
set_option maxHeartbeats 4000000 in
theorem t_X7_goesNext_320 {X : qaX} {l : Launch} {Y : qaY} {fin : qaM} (hC : QC X l Y cX7_goesNext RX7 3 2) (hQ : QRv X Y fin) {m : qaM} {s1 : Int32} {z : (qaM)} (hf : b_X7_goesNext_320 m s1 = some z) (hK : (qa_eq fin) z) : QG X Y 3 m 320 [] [.int s1, .ref (Y.2.2.1 36)] := by
  unfold b_X7_goesNext_320 at hf
  obtain ⟨m10, em10, hf⟩ := qa_lt_e hf
  refine qi_puti hC em10 kp_X7_116 sh_36 rfl rfl rfl dX7_goesNext_320 ?_
  refine qi_goto (tgt := 403) hC (by decide) dX7_goesNext_323 ?_
  obtain rfl := Option.some.inj hf
  exact qi_vret hC hQ hK dX7_goesNext_403
set_option maxRecDepth 100000 in
set_option maxHeartbeats 4000000 in
theorem t_X7_goesNext_309 {X : qaX} {l : Launch} {Y : qaY} {fin : qaM} (hC : QC X l Y cX7_goesNext RX7 3 2) (hQ : QRv X Y fin) {m : qaM} {v2 : Int32} {z : (qaM)} (hf : b_X7_goesNext_309 m v2 = some z) (hK : (qa_eq fin) z) : QG X Y 3 m 309 [(0, .ref (Y.2.2.1 36)), (2, .int v2)] [] := by
  unfold b_X7_goesNext_309 at hf
  refine qi_aload_n hC 0 rfl rfl dX7_goesNext_309 ?_
  refine qi_iload_n hC 1 rfl rfl dX7_goesNext_310 ?_
  refine qi_iconst hC dX7_goesNext_311 kn_iconst_4 ?_
  refine qi_icmp_le (tgt := 319) hC (by decide) dX7_goesNext_312 (fun h => ?_) (fun h => ?_)
  · replace hf := qa_if_t h hf
    refine qi_iconst hC dX7_goesNext_319 kn_iconst_1 ?_
    refine qi_sub hC [] rfl ?_
    exact t_X7_goesNext_320 hC hQ hf hK
  · replace hf := qa_if_f h hf
    refine qi_iconst hC dX7_goesNext_315 kn_iconst_m1 ?_
    refine qi_goto (tgt := 320) hC (by decide) dX7_goesNext_316 ?_
    refine qi_sub hC [] rfl ?_
    exact t_X7_goesNext_320 hC hQ hf hK
set_option maxRecDepth 100000 in
set_option maxHeartbeats 4000000 in
theorem t_X7_goesNext_290 {X : qaX} {l : Launch} {Y : qaY} {fin : qaM} (hC : QC X l Y cX7_goesNext RX7 3 2) (hQ : QRv X Y fin) {m : qaM} {v2 : Int32} {s1 : Int32} {z : ((qaM × Int32) ⊕ (qaM))} (hf : b_X7_goesNext_290 m v2 s1 = some z) (hK : (qa_K (fun s => QG X Y 3 s.1 230 [(0, .ref (Y.2.2.1 36)), (2, .int s.2)] []) (qa_eq fin)) z) : QG X Y 3 m 290 [(0, .ref (Y.2.2.1 36)), (2, .int v2)] [.int s1, .ref (Y.2.2.1 36)] := by
  unfold b_X7_goesNext_290 at hf
  obtain ⟨m13, em13, hf⟩ := qa_lt_e hf
  refine qi_puti hC em13 kp_X7_119 sh_36 rfl rfl rfl dX7_goesNext_290 ?_
  obtain ⟨x14, ex14, hf⟩ := qa_lt_e hf
  refine qi_iinc hC (n := 1) (v := x14) 1 rfl ((congrArg (fun q => v2 + q) kn_iconst_1).trans ex14.symm) (by decide) rfl dX7_goesNext_293 ?_
  refine qi_aload_n hC 1 rfl rfl dX7_goesNext_296 ?_
  refine qi_dup hC rfl dX7_goesNext_297 ?_
  refine qi_geti hC kf_X7_110 sh_36 rfl dX7_goesNext_298 ?_
  refine qi_iconst hC dX7_goesNext_301 kn_iconst_1 ?_
  refine qi_iadd hC dX7_goesNext_302 ?_
  obtain ⟨m15, em15, hf⟩ := qa_lt_e hf
  refine qi_puti hC em15 kp_X7_110 sh_36 rfl rfl rfl dX7_goesNext_303 ?_
  refine qi_goto (tgt := 230) hC (by decide) dX7_goesNext_306 ?_
  obtain rfl := Option.some.inj hf
  refine qi_sub hC [1, 0] rfl ?_
  exact hK
set_option maxRecDepth 100000 in
set_option maxHeartbeats 4000000 in
theorem t_X7_goesNext_230 {X : qaX} {l : Launch} {Y : qaY} {fin : qaM} (hC : QC X l Y cX7_goesNext RX7 3 2) (hQ : QRv X Y fin) {m : qaM} {v2 : Int32} {z : ((qaM × Int32) ⊕ (qaM))} (hf : b_X7_goesNext_230 m v2 = some z) (hK : (qa_K (fun s => QG X Y 3 s.1 230 [(0, .ref (Y.2.2.1 36)), (2, .int s.2)] []) (qa_eq fin)) z) : QG X Y 3 m 230 [(0, .ref (Y.2.2.1 36)), (2, .int v2)] [] := by
  unfold b_X7_goesNext_230 at hf
  refine qi_aload_n hC 0 rfl rfl dX7_goesNext_230 ?_
  refine qi_geti hC kf_X7_110 sh_36 rfl dX7_goesNext_231 ?_
  refine qi_aload_n hC 0 rfl rfl dX7_goesNext_234 ?_
  refine qi_geti hC kf_X7_79 sh_36 rfl dX7_goesNext_235 ?_
  refine qi_icmp_ge (tgt := 309) hC (by decide) dX7_goesNext_238 (fun h => ?_) (fun h => ?_)
  · replace hf := qa_if_t h hf
    obtain ⟨z, rfl, hg⟩ := qa_inr_e hf; have hf := hg
    exact t_X7_goesNext_309 hC hQ hf hK
  · replace hf := qa_if_f h hf
    refine qi_aload_n hC 0 rfl rfl dX7_goesNext_241 ?_
    refine qi_getr hC kf_X7_25 sh_36 rfl dX7_goesNext_242 ?_
    refine qi_aload_n hC 0 rfl rfl dX7_goesNext_245 ?_
    refine qi_geti hC kf_X7_110 sh_36 rfl dX7_goesNext_246 ?_
    obtain ⟨h11, hf⟩ := qa_ck_e hf
    refine qi_iald hC rfl sh_42 (qa_in_v h11) dX7_goesNext_249 ?_
    refine qi_bipush hC dX7_goesNext_250 kn_bipush_48 ?_
    refine qi_bipush hC dX7_goesNext_252 kn_bipush_57 ?_
    obtain ⟨q12, hq12, hf⟩ := Option.bind_eq_some_iff.mp hf
    refine qi_callSi hC (as := [.int (m 42 (m 36 26).toNatClampNeg), .int (48 : Int32), .int (57 : Int32)]) (c_X7_in _ _ _ _ _ _ _ hq12) kl_X7_90 kc_X7_in rfl rfl (by decide) (by decide) (Nat.le_of_ble_eq_true rfl) dX7_goesNext_254 ?_
    refine qi_if_eq (tgt := 309) hC (by decide) dX7_goesNext_257 (fun h => ?_) (fun h => ?_)
    · replace hf := qa_if_t h hf
      obtain ⟨z, rfl, hg⟩ := qa_inr_e hf; have hf := hg
      exact t_X7_goesNext_309 hC hQ hf hK
    · replace hf := qa_if_f h hf
      refine qi_aload_n hC 0 rfl rfl dX7_goesNext_260 ?_
      refine qi_iload_n hC 1 rfl rfl dX7_goesNext_261 ?_
      refine qi_iconst hC dX7_goesNext_262 kn_iconst_4 ?_
      refine qi_icmp_ge (tgt := 289) hC (by decide) dX7_goesNext_263 (fun h => ?_) (fun h => ?_)
      · replace hf := qa_if_t h hf
        refine qi_iconst hC dX7_goesNext_289 kn_iconst_0 ?_
        exact t_X7_goesNext_290 hC hQ hf hK
      · replace hf := qa_if_f h hf
        refine qi_bipush hC dX7_goesNext_266 kn_bipush_10 ?_
        refine qi_aload_n hC 0 rfl rfl dX7_goesNext_268 ?_
        refine qi_geti hC kf_X7_119 sh_36 rfl dX7_goesNext_269 ?_
        refine qi_imul hC dX7_goesNext_272 ?_
        refine qi_aload_n hC 0 rfl rfl dX7_goesNext_273 ?_
        refine qi_getr hC kf_X7_25 sh_36 rfl dX7_goesNext_274 ?_
        refine qi_aload_n hC 0 rfl rfl dX7_goesNext_277 ?_
        refine qi_geti hC kf_X7_110 sh_36 rfl dX7_goesNext_278 ?_
        obtain ⟨h16, hf⟩ := qa_ck_e hf
        refine qi_iald hC rfl sh_42 (qa_in_v h16) dX7_goesNext_281 ?_
        refine qi_iadd hC dX7_goesNext_282 ?_
        refine qi_bipush hC dX7_goesNext_283 kn_bipush_48 ?_
        refine qi_isub hC dX7_goesNext_285 ?_
        refine qi_goto (tgt := 290) hC (by decide) dX7_goesNext_286 ?_
        exact t_X7_goesNext_290 hC hQ hf hK
set_option maxRecDepth 100000 in
set_option maxHeartbeats 4000000 in
theorem tn_X7_goesNext_230 {X : qaX} {l : Launch} {Y : qaY} {fin : qaM} (hC : QC X l Y cX7_goesNext RX7 3 2) (hQ : QRv X Y fin) {z : (qaM)} (hK : (qa_eq fin) z) : ∀ (n : Nat) (s : qaM × Int32), qa_lp (fun s => b_X7_goesNext_230 s.1 s.2) n s = some z → QG X Y 3 s.1 230 [(0, .ref (Y.2.2.1 36)), (2, .int s.2)] [] := by
  intro n
  induction n with
  | zero => intro s hf; cases hf
  | succ n ih =>
    intro s hf
    obtain ⟨y, hy, hf⟩ := qa_lp_e hf
    refine t_X7_goesNext_230 hC hQ hy ?_
    rcases hf with ⟨s', rfl, hf⟩ | rfl
    · exact ih s' hf
    · exact hK
set_option maxRecDepth 100000 in
set_option maxHeartbeats 4000000 in
theorem tl_X7_goesNext_230 {X : qaX} {l : Launch} {Y : qaY} {fin : qaM} (hC : QC X l Y cX7_goesNext RX7 3 2) (hQ : QRv X Y fin) {m : qaM} {v2 : Int32} {z : (qaM)} (hf : lp_X7_goesNext_230 m v2 = some z) (hK : (qa_eq fin) z) : QG X Y 3 m 230 [(0, .ref (Y.2.2.1 36)), (2, .int v2)] [] :=
  tn_X7_goesNext_230 hC hQ hK qa_F (m, v2) hf
set_option maxRecDepth 100000 in
set_option maxHeartbeats 4000000 in
theorem t_X7_goesNext_211 {X : qaX} {l : Launch} {Y : qaY} {fin : qaM} (hC : QC X l Y cX7_goesNext RX7 3 2) (hQ : QRv X Y fin) {m : qaM} {s1 : Int32} {z : (qaM)} (hf : b_X7_goesNext_211 m s1 = some z) (hK : (qa_eq fin) z) : QG X Y 3 m 211 [] [.int s1, .ref (Y.2.2.1 36)] := by
  unfold b_X7_goesNext_211 at hf
  obtain ⟨m19, em19, hf⟩ := qa_lt_e hf
  refine qi_puti hC em19 kp_X7_119 sh_36 rfl rfl rfl dX7_goesNext_211 ?_
  refine qi_goto (tgt := 403) hC (by decide) dX7_goesNext_214 ?_
  obtain rfl := Option.some.inj hf
  exact qi_vret hC hQ hK dX7_goesNext_403
set_option maxRecDepth 100000 in
set_option maxHeartbeats 4000000 in
theorem t_X7_goesNext_195 {X : qaX} {l : Launch} {Y : qaY} {fin : qaM} (hC : QC X l Y cX7_goesNext RX7 3 2) (hQ : QRv X Y fin) {m : qaM} {v2 : Int32} {s1 : Int32} {z : (qaM)} (hf : b_X7_goesNext_195 m v2 s1 = some z) (hK : (qa_eq fin) z) : QG X Y 3 m 195 [(0, .ref (Y.2.2.1 36)), (2, .int v2)] [.int s1, .ref (Y.2.2.1 36)] := by
  unfold b_X7_goesNext_195 at hf
  obtain ⟨m18, em18, hf⟩ := qa_lt_e hf
  refine qi_puti hC em18 kp_X7_116 sh_36 rfl rfl rfl dX7_goesNext_195 ?_
  refine qi_aload_n hC 0 rfl rfl dX7_goesNext_198 ?_
  refine qi_iload_n hC 1 rfl rfl dX7_goesNext_199 ?_
  refine qi_iconst hC dX7_goesNext_200 kn_iconst_3 ?_
  refine qi_icmp_ge (tgt := 208) hC (by decide) dX7_goesNext_201 (fun h => ?_) (fun h => ?_)
  · replace hf := qa_if_t h hf
    refine qi_iload_n hC 1 rfl rfl dX7_goesNext_208 ?_
    refine qi_iconst hC dX7_goesNext_209 kn_iconst_3 ?_
    refine qi_isub hC dX7_goesNext_210 ?_
    refine qi_sub hC [] rfl ?_
    exact t_X7_goesNext_211 hC hQ hf hK
  · replace hf := qa_if_f h hf
    refine qi_iload_n hC 1 rfl rfl dX7_goesNext_204 ?_
    refine qi_goto (tgt := 211) hC (by decide) dX7_goesNext_205 ?_
    refine qi_sub hC [] rfl ?_
    exact t_X7_goesNext_211 hC hQ hf hK
set_option maxRecDepth 100000 in
set_option maxHeartbeats 4000000 in
theorem t_X7_goesNext_146 {X : qaX} {l : Launch} {Y : qaY} {fin : qaM} (hC : QC X l Y cX7_goesNext RX7 3 2) (hQ : QRv X Y fin) {m : qaM} {z : (qaM)} (hf : b_X7_goesNext_146 m = some z) (hK : (qa_eq fin) z) : QG X Y 3 m 146 [(0, .ref (Y.2.2.1 36))] [] := by
  unfold b_X7_goesNext_146 at hf
  refine qi_aload_n hC 0 rfl rfl dX7_goesNext_146 ?_
  refine qi_aload_n hC 0 rfl rfl dX7_goesNext_147 ?_
  refine qi_geti hC kf_X7_113 sh_36 rfl dX7_goesNext_148 ?_
  refine qi_aload_n hC 0 rfl rfl dX7_goesNext_151 ?_
  refine qi_geti hC kf_X7_110 sh_36 rfl dX7_goesNext_152 ?_
  obtain ⟨q17, hq17, hf⟩ := Option.bind_eq_some_iff.mp hf
  refine qi_callVi hC (as := [.int (m 36 27), .int (m 36 26)]) (c_X7_wordFrom _ _ _ _ _ _ hq17) kl_X7_122 sh_36 kc_X7_wordFrom rfl rfl (by decide) (by decide) (Nat.le_of_ble_eq_true rfl) dX7_goesNext_155 ?_
  refine qi_istore_n hC rfl (by decide) rfl dX7_goesNext_158 ?_
  refine qi_aload_n hC 1 rfl rfl dX7_goesNext_159 ?_
  refine qi_iload_n hC 0 rfl rfl dX7_goesNext_160 ?_
  refine qi_iconst hC dX7_goesNext_161 kn_iconst_3 ?_
  refine qi_icmp_ge (tgt := 169) hC (by decide) dX7_goesNext_162 (fun h => ?_) (fun h => ?_)
  · replace hf := qa_if_t h hf
    refine qi_iload_n hC 0 rfl rfl dX7_goesNext_169 ?_
    refine qi_bipush hC dX7_goesNext_170 kn_bipush_9 ?_
    refine qi_icmp_ge (tgt := 179) hC (by decide) dX7_goesNext_172 (fun h => ?_) (fun h => ?_)
    · replace hf := qa_if_t h hf
      refine qi_iload_n hC 0 rfl rfl dX7_goesNext_179 ?_
      refine qi_bipush hC dX7_goesNext_180 kn_bipush_12 ?_
      refine qi_icmp_ne (tgt := 189) hC (by decide) dX7_goesNext_182 (fun h => ?_) (fun h => ?_)
      · replace hf := qa_if_f h hf
        refine qi_iconst hC dX7_goesNext_189 kn_iconst_4 ?_
        refine qi_iload_n hC 0 rfl rfl dX7_goesNext_190 ?_
        refine qi_iadd hC dX7_goesNext_191 ?_
        refine qi_bipush hC dX7_goesNext_192 kn_bipush_9 ?_
        refine qi_isub hC dX7_goesNext_194 ?_
        refine qi_sub hC [1, 0] rfl ?_
        exact t_X7_goesNext_195 hC hQ hf hK
      · replace hf := qa_if_t h hf
        refine qi_iconst hC dX7_goesNext_185 kn_iconst_m1 ?_
        refine qi_goto (tgt := 195) hC (by decide) dX7_goesNext_186 ?_
        refine qi_sub hC [1, 0] rfl ?_
        exact t_X7_goesNext_195 hC hQ hf hK
    · replace hf := qa_if_f h hf
      refine qi_iconst hC dX7_goesNext_175 kn_iconst_2 ?_
      refine qi_goto (tgt := 195) hC (by decide) dX7_goesNext_176 ?_
      refine qi_sub hC [1, 0] rfl ?_
      exact t_X7_goesNext_195 hC hQ hf hK
  · replace hf := qa_if_f h hf
    refine qi_iconst hC dX7_goesNext_165 kn_iconst_3 ?_
    refine qi_goto (tgt := 195) hC (by decide) dX7_goesNext_166 ?_
    refine qi_sub hC [1, 0] rfl ?_
    exact t_X7_goesNext_195 hC hQ hf hK
set_option maxRecDepth 100000 in
set_option maxHeartbeats 4000000 in
theorem t_X7_goesNext_103 {X : qaX} {l : Launch} {Y : qaY} {fin : qaM} (hC : QC X l Y cX7_goesNext RX7 3 2) (hQ : QRv X Y fin) {m : qaM} {z : ((qaM) ⊕ (qaM))} (hf : b_X7_goesNext_103 m = some z) (hK : (qa_K (fun s => QG X Y 3 s 103 [(0, .ref (Y.2.2.1 36))] []) (qa_eq fin)) z) : QG X Y 3 m 103 [(0, .ref (Y.2.2.1 36))] [] := by
  unfold b_X7_goesNext_103 at hf
  refine qi_aload_n hC 0 rfl rfl dX7_goesNext_103 ?_
  refine qi_geti hC kf_X7_110 sh_36 rfl dX7_goesNext_104 ?_
  refine qi_aload_n hC 0 rfl rfl dX7_goesNext_107 ?_
  refine qi_geti hC kf_X7_79 sh_36 rfl dX7_goesNext_108 ?_
  refine qi_icmp_ge (tgt := 146) hC (by decide) dX7_goesNext_111 (fun h => ?_) (fun h => ?_)
  · replace hf := qa_if_t h hf
    obtain ⟨z, rfl, hg⟩ := qa_inr_e hf; have hf := hg
    exact t_X7_goesNext_146 hC hQ hf hK
  · replace hf := qa_if_f h hf
    refine qi_aload_n hC 0 rfl rfl dX7_goesNext_114 ?_
    refine qi_getr hC kf_X7_25 sh_36 rfl dX7_goesNext_115 ?_
    refine qi_aload_n hC 0 rfl rfl dX7_goesNext_118 ?_
    refine qi_geti hC kf_X7_110 sh_36 rfl dX7_goesNext_119 ?_
    obtain ⟨h20, hf⟩ := qa_ck_e hf
    refine qi_iald hC rfl sh_42 (qa_in_v h20) dX7_goesNext_122 ?_
    refine qi_bipush hC dX7_goesNext_123 kn_bipush_97 ?_
    refine qi_bipush hC dX7_goesNext_125 kn_bipush_122 ?_
    obtain ⟨q21, hq21, hf⟩ := Option.bind_eq_some_iff.mp hf
    refine qi_callSi hC (as := [.int (m 42 (m 36 26).toNatClampNeg), .int (97 : Int32), .int (122 : Int32)]) (c_X7_in _ _ _ _ _ _ _ hq21) kl_X7_90 kc_X7_in rfl rfl (by decide) (by decide) (Nat.le_of_ble_eq_true rfl) dX7_goesNext_127 ?_
    refine qi_if_eq (tgt := 146) hC (by decide) dX7_goesNext_130 (fun h => ?_) (fun h => ?_)
    · replace hf := qa_if_t h hf
      obtain ⟨z, rfl, hg⟩ := qa_inr_e hf; have hf := hg
      exact t_X7_goesNext_146 hC hQ hf hK
    · replace hf := qa_if_f h hf
      refine qi_aload_n hC 0 rfl rfl dX7_goesNext_133 ?_
      refine qi_dup hC rfl dX7_goesNext_134 ?_
      refine qi_geti hC kf_X7_110 sh_36 rfl dX7_goesNext_135 ?_
      refine qi_iconst hC dX7_goesNext_138 kn_iconst_1 ?_
      refine qi_iadd hC dX7_goesNext_139 ?_
      obtain ⟨m22, em22, hf⟩ := qa_lt_e hf
      refine qi_puti hC em22 kp_X7_110 sh_36 rfl rfl rfl dX7_goesNext_140 ?_
      refine qi_goto (tgt := 103) hC (by decide) dX7_goesNext_143 ?_
      obtain rfl := Option.some.inj hf
      exact hK
set_option maxRecDepth 100000 in
set_option maxHeartbeats 4000000 in
theorem tn_X7_goesNext_103 {X : qaX} {l : Launch} {Y : qaY} {fin : qaM} (hC : QC X l Y cX7_goesNext RX7 3 2) (hQ : QRv X Y fin) {z : (qaM)} (hK : (qa_eq fin) z) : ∀ (n : Nat) (s : qaM), qa_lp (fun s => b_X7_goesNext_103 s) n s = some z → QG X Y 3 s 103 [(0, .ref (Y.2.2.1 36))] [] := by
  intro n
  induction n with
  | zero => intro s hf; cases hf
  | succ n ih =>
    intro s hf
    obtain ⟨y, hy, hf⟩ := qa_lp_e hf
    refine t_X7_goesNext_103 hC hQ hy ?_
    rcases hf with ⟨s', rfl, hf⟩ | rfl
    · exact ih s' hf
    · exact hK
set_option maxRecDepth 100000 in
set_option maxHeartbeats 4000000 in
theorem tl_X7_goesNext_103 {X : qaX} {l : Launch} {Y : qaY} {fin : qaM} (hC : QC X l Y cX7_goesNext RX7 3 2) (hQ : QRv X Y fin) {m : qaM} {z : (qaM)} (hf : lp_X7_goesNext_103 m = some z) (hK : (qa_eq fin) z) : QG X Y 3 m 103 [(0, .ref (Y.2.2.1 36))] [] :=
  tn_X7_goesNext_103 hC hQ hK qa_F m hf
set_option maxRecDepth 100000 in
set_option maxHeartbeats 4000000 in
theorem t_X7_goesNext_52 {X : qaX} {l : Launch} {Y : qaY} {fin : qaM} (hC : QC X l Y cX7_goesNext RX7 3 2) (hQ : QRv X Y fin) {m : qaM} {z : (qaM)} (hf : b_X7_goesNext_52 m = some z) (hK : (qa_eq fin) z) : QG X Y 3 m 52 [(0, .ref (Y.2.2.1 36))] [] := by
  unfold b_X7_goesNext_52 at hf
  refine qi_aload_n hC 0 rfl rfl dX7_goesNext_52 ?_
  refine qi_aload_n hC 0 rfl rfl dX7_goesNext_53 ?_
  refine qi_geti hC kf_X7_110 sh_36 rfl dX7_goesNext_54 ?_
  obtain ⟨m1, em1, hf⟩ := qa_lt_e hf
  refine qi_puti hC em1 kp_X7_113 sh_36 rfl rfl rfl dX7_goesNext_57 ?_
  refine qi_aload_n hC 0 rfl rfl dX7_goesNext_60 ?_
  refine qi_iconst hC dX7_goesNext_61 kn_iconst_0 ?_
  obtain ⟨m2, em2, hf⟩ := qa_lt_e hf
  refine qi_puti hC em2 kp_X7_116 sh_36 rfl rfl rfl dX7_goesNext_62 ?_
  refine qi_aload_n hC 0 rfl rfl dX7_goesNext_65 ?_
  refine qi_iconst hC dX7_goesNext_66 kn_iconst_0 ?_
  obtain ⟨m3, em3, hf⟩ := qa_lt_e hf
  refine qi_puti hC em3 kp_X7_119 sh_36 rfl rfl rfl dX7_goesNext_67 ?_
  refine qi_aload_n hC 0 rfl rfl dX7_goesNext_70 ?_
  refine qi_geti hC kf_X7_110 sh_36 rfl dX7_goesNext_71 ?_
  refine qi_aload_n hC 0 rfl rfl dX7_goesNext_74 ?_
  refine qi_geti hC kf_X7_79 sh_36 rfl dX7_goesNext_75 ?_
  refine qi_icmp_ne (tgt := 82) hC (by decide) dX7_goesNext_78 (fun h => ?_) (fun h => ?_)
  · replace hf := qa_if_f h hf
    refine qi_aload_n hC 0 rfl rfl dX7_goesNext_82 ?_
    refine qi_getr hC kf_X7_25 sh_36 rfl dX7_goesNext_83 ?_
    refine qi_aload_n hC 0 rfl rfl dX7_goesNext_86 ?_
    refine qi_geti hC kf_X7_110 sh_36 rfl dX7_goesNext_87 ?_
    obtain ⟨h4, hf⟩ := qa_ck_e hf
    refine qi_iald hC rfl sh_42 (qa_in_v h4) dX7_goesNext_90 ?_
    obtain ⟨x5, ex5, hf⟩ := qa_lt_e hf
    refine qi_nmi hC ex5 ?_
    refine qi_istore_n hC rfl (by decide) rfl dX7_goesNext_91 ?_
    refine qi_iload_n hC 0 rfl rfl dX7_goesNext_92 ?_
    refine qi_bipush hC dX7_goesNext_93 kn_bipush_97 ?_
    refine qi_bipush hC dX7_goesNext_95 kn_bipush_122 ?_
    obtain ⟨q6, hq6, hf⟩ := Option.bind_eq_some_iff.mp hf
    refine qi_callSi hC (as := [.int x5, .int (97 : Int32), .int (122 : Int32)]) (c_X7_in _ _ _ _ _ _ _ hq6) kl_X7_90 kc_X7_in rfl rfl (by decide) (by decide) (Nat.le_of_ble_eq_true rfl) dX7_goesNext_97 ?_
    refine qi_if_eq (tgt := 217) hC (by decide) dX7_goesNext_100 (fun h => ?_) (fun h => ?_)
    · replace hf := qa_if_t h hf
      refine qi_iload_n hC 0 rfl rfl dX7_goesNext_217 ?_
      refine qi_bipush hC dX7_goesNext_218 kn_bipush_48 ?_
      refine qi_bipush hC dX7_goesNext_220 kn_bipush_57 ?_
      obtain ⟨q7, hq7, hf⟩ := Option.bind_eq_some_iff.mp hf
      refine qi_callSi hC (as := [.int x5, .int (48 : Int32), .int (57 : Int32)]) (c_X7_in _ _ _ _ _ _ _ hq7) kl_X7_90 kc_X7_in rfl rfl (by decide) (by decide) (Nat.le_of_ble_eq_true rfl) dX7_goesNext_222 ?_
      refine qi_if_eq (tgt := 326) hC (by decide) dX7_goesNext_225 (fun h => ?_) (fun h => ?_)
      · replace hf := qa_if_t h hf
        refine qi_iload_n hC 0 rfl rfl dX7_goesNext_326 ?_
        refine qi_bipush hC dX7_goesNext_327 kn_bipush_40 ?_
        refine qi_icmp_eq (tgt := 374) hC (by decide) dX7_goesNext_329 (fun h => ?_) (fun h => ?_)
        · replace hf := qa_if_t h hf
          refine qi_sub hC [1, 0] rfl ?_
          exact t_X7_goesNext_374 hC hQ hf hK
        · replace hf := qa_if_f h hf
          refine qi_iload_n hC 0 rfl rfl dX7_goesNext_332 ?_
          refine qi_bipush hC dX7_goesNext_333 kn_bipush_41 ?_
          refine qi_icmp_eq (tgt := 374) hC (by decide) dX7_goesNext_335 (fun h => ?_) (fun h => ?_)
          · replace hf := qa_if_t h hf
            refine qi_sub hC [1, 0] rfl ?_
            exact t_X7_goesNext_374 hC hQ hf hK
          · replace hf := qa_if_f h hf
            refine qi_iload_n hC 0 rfl rfl dX7_goesNext_338 ?_
            refine qi_bipush hC dX7_goesNext_339 kn_bipush_59 ?_
            refine qi_icmp_eq (tgt := 374) hC (by decide) dX7_goesNext_341 (fun h => ?_) (fun h => ?_)
            · replace hf := qa_if_t h hf
              refine qi_sub hC [1, 0] rfl ?_
              exact t_X7_goesNext_374 hC hQ hf hK
            · replace hf := qa_if_f h hf
              refine qi_iload_n hC 0 rfl rfl dX7_goesNext_344 ?_
              refine qi_bipush hC dX7_goesNext_345 kn_bipush_43 ?_
              refine qi_icmp_eq (tgt := 374) hC (by decide) dX7_goesNext_347 (fun h => ?_) (fun h => ?_)
              · replace hf := qa_if_t h hf
                refine qi_sub hC [1, 0] rfl ?_
                exact t_X7_goesNext_374 hC hQ hf hK
              · replace hf := qa_if_f h hf
                refine qi_iload_n hC 0 rfl rfl dX7_goesNext_350 ?_
                refine qi_bipush hC dX7_goesNext_351 kn_bipush_45 ?_
                refine qi_icmp_eq (tgt := 374) hC (by decide) dX7_goesNext_353 (fun h => ?_) (fun h => ?_)
                · replace hf := qa_if_t h hf
                  refine qi_sub hC [1, 0] rfl ?_
                  exact t_X7_goesNext_374 hC hQ hf hK
                · replace hf := qa_if_f h hf
                  refine qi_iload_n hC 0 rfl rfl dX7_goesNext_356 ?_
                  refine qi_bipush hC dX7_goesNext_357 kn_bipush_42 ?_
                  refine qi_icmp_eq (tgt := 374) hC (by decide) dX7_goesNext_359 (fun h => ?_) (fun h => ?_)
                  · replace hf := qa_if_t h hf
                    refine qi_sub hC [1, 0] rfl ?_
                    exact t_X7_goesNext_374 hC hQ hf hK
                  · replace hf := qa_if_f h hf
                    refine qi_iload_n hC 0 rfl rfl dX7_goesNext_362 ?_
                    refine qi_bipush hC dX7_goesNext_363 kn_bipush_60 ?_
                    refine qi_icmp_eq (tgt := 374) hC (by decide) dX7_goesNext_365 (fun h => ?_) (fun h => ?_)
                    · replace hf := qa_if_t h hf
                      refine qi_sub hC [1, 0] rfl ?_
                      exact t_X7_goesNext_374 hC hQ hf hK
                    · replace hf := qa_if_f h hf
                      refine qi_iload_n hC 0 rfl rfl dX7_goesNext_368 ?_
                      refine qi_bipush hC dX7_goesNext_369 kn_bipush_61 ?_
                      refine qi_icmp_ne (tgt := 378) hC (by decide) dX7_goesNext_371 (fun h => ?_) (fun h => ?_)
                      · replace hf := qa_if_f h hf
                        refine qi_iconst hC dX7_goesNext_378 kn_iconst_0 ?_
                        refine qi_sub hC [1, 0] rfl ?_
                        exact t_X7_goesNext_379 hC hQ hf hK
                      · replace hf := qa_if_t h hf
                        refine qi_sub hC [1, 0] rfl ?_
                        exact t_X7_goesNext_374 hC hQ hf hK
      · replace hf := qa_if_f h hf
        refine qi_iconst hC dX7_goesNext_228 kn_iconst_0 ?_
        refine qi_istore_n hC rfl (by decide) rfl dX7_goesNext_229 ?_
        refine qi_sub hC [2, 0] rfl ?_
        exact tl_X7_goesNext_230 hC hQ hf hK
    · replace hf := qa_if_f h hf
      refine qi_sub hC [1] rfl ?_
      exact tl_X7_goesNext_103 hC hQ hf hK
  · replace hf := qa_if_t h hf
    obtain rfl := Option.some.inj hf
    exact qi_vret hC hQ hK dX7_goesNext_81
set_option maxRecDepth 100000 in
set_option maxHeartbeats 4000000 in
theorem t_X7_goesNext_39 {X : qaX} {l : Launch} {Y : qaY} {fin : qaM} (hC : QC X l Y cX7_goesNext RX7 3 2) (hQ : QRv X Y fin) {m : qaM} {z : ((qaM) ⊕ (qaM))} (hf : b_X7_goesNext_39 m = some z) (hK : (qa_K (fun s => QG X Y 3 s 0 [(0, .ref (Y.2.2.1 36))] []) (qa_eq fin)) z) : QG X Y 3 m 39 [(0, .ref (Y.2.2.1 36))] [] := by
  unfold b_X7_goesNext_39 at hf
  refine qi_aload_n hC 0 rfl rfl dX7_goesNext_39 ?_
  refine qi_dup hC rfl dX7_goesNext_40 ?_
  refine qi_geti hC kf_X7_110 sh_36 rfl dX7_goesNext_41 ?_
  refine qi_iconst hC dX7_goesNext_44 kn_iconst_1 ?_
  refine qi_iadd hC dX7_goesNext_45 ?_
  obtain ⟨m24, em24, hf⟩ := qa_lt_e hf
  refine qi_puti hC em24 kp_X7_110 sh_36 rfl rfl rfl dX7_goesNext_46 ?_
  refine qi_goto (tgt := 0) hC (by decide) dX7_goesNext_49 ?_
  obtain rfl := Option.some.inj hf
  exact hK
set_option maxRecDepth 100000 in
set_option maxHeartbeats 4000000 in
theorem t_X7_goesNext_0 {X : qaX} {l : Launch} {Y : qaY} {fin : qaM} (hC : QC X l Y cX7_goesNext RX7 3 2) (hQ : QRv X Y fin) {m : qaM} {z : ((qaM) ⊕ (qaM))} (hf : b_X7_goesNext_0 m = some z) (hK : (qa_K (fun s => QG X Y 3 s 0 [(0, .ref (Y.2.2.1 36))] []) (qa_eq fin)) z) : QG X Y 3 m 0 [(0, .ref (Y.2.2.1 36))] [] := by
  unfold b_X7_goesNext_0 at hf
  refine qi_aload_n hC 0 rfl rfl dX7_goesNext_0 ?_
  refine qi_geti hC kf_X7_110 sh_36 rfl dX7_goesNext_1 ?_
  refine qi_aload_n hC 0 rfl rfl dX7_goesNext_4 ?_
  refine qi_geti hC kf_X7_79 sh_36 rfl dX7_goesNext_5 ?_
  refine qi_icmp_ge (tgt := 52) hC (by decide) dX7_goesNext_8 (fun h => ?_) (fun h => ?_)
  · replace hf := qa_if_t h hf
    obtain ⟨z, rfl, hg⟩ := qa_inr_e hf; have hf := hg
    exact t_X7_goesNext_52 hC hQ hf hK
  · replace hf := qa_if_f h hf
    refine qi_aload_n hC 0 rfl rfl dX7_goesNext_11 ?_
    refine qi_getr hC kf_X7_25 sh_36 rfl dX7_goesNext_12 ?_
    refine qi_aload_n hC 0 rfl rfl dX7_goesNext_15 ?_
    refine qi_geti hC kf_X7_110 sh_36 rfl dX7_goesNext_16 ?_
    obtain ⟨h23, hf⟩ := qa_ck_e hf
    refine qi_iald hC rfl sh_42 (qa_in_v h23) dX7_goesNext_19 ?_
    refine qi_bipush hC dX7_goesNext_20 kn_bipush_32 ?_
    refine qi_icmp_eq (tgt := 39) hC (by decide) dX7_goesNext_22 (fun h => ?_) (fun h => ?_)
    · replace hf := qa_if_t h hf
      exact t_X7_goesNext_39 hC hQ hf hK
    · replace hf := qa_if_f h hf
      refine qi_aload_n hC 0 rfl rfl dX7_goesNext_25 ?_
      refine qi_getr hC kf_X7_25 sh_36 rfl dX7_goesNext_26 ?_
      refine qi_aload_n hC 0 rfl rfl dX7_goesNext_29 ?_
      refine qi_geti hC kf_X7_110 sh_36 rfl dX7_goesNext_30 ?_
      obtain ⟨h25, hf⟩ := qa_ck_e hf
      refine qi_iald hC rfl sh_42 (qa_in_v h25) dX7_goesNext_33 ?_
      refine qi_bipush hC dX7_goesNext_34 kn_bipush_10 ?_
      refine qi_icmp_ne (tgt := 52) hC (by decide) dX7_goesNext_36 (fun h => ?_) (fun h => ?_)
      · replace hf := qa_if_f h hf
        obtain ⟨z, rfl, hg⟩ := qa_inr_e hf; have hf := hg
        exact t_X7_goesNext_52 hC hQ hf hK
      · replace hf := qa_if_t h hf
        exact t_X7_goesNext_39 hC hQ hf hK
set_option maxRecDepth 100000 in
set_option maxHeartbeats 4000000 in
theorem tn_X7_goesNext_0 {X : qaX} {l : Launch} {Y : qaY} {fin : qaM} (hC : QC X l Y cX7_goesNext RX7 3 2) (hQ : QRv X Y fin) {z : (qaM)} (hK : (qa_eq fin) z) : ∀ (n : Nat) (s : qaM), qa_lp (fun s => b_X7_goesNext_0 s) n s = some z → QG X Y 3 s 0 [(0, .ref (Y.2.2.1 36))] [] := by
  intro n
  induction n with
  | zero => intro s hf; cases hf
  | succ n ih =>
    intro s hf
    obtain ⟨y, hy, hf⟩ := qa_lp_e hf
    refine t_X7_goesNext_0 hC hQ hy ?_
    rcases hf with ⟨s', rfl, hf⟩ | rfl
    · exact ih s' hf
    · exact hK
set_option maxRecDepth 100000 in
set_option maxHeartbeats 4000000 in
theorem tl_X7_goesNext_0 {X : qaX} {l : Launch} {Y : qaY} {fin : qaM} (hC : QC X l Y cX7_goesNext RX7 3 2) (hQ : QRv X Y fin) {m : qaM} {z : (qaM)} (hf : lp_X7_goesNext_0 m = some z) (hK : (qa_eq fin) z) : QG X Y 3 m 0 [(0, .ref (Y.2.2.1 36))] [] :=
  tn_X7_goesNext_0 hC hQ hK qa_F m hf
set_option maxRecDepth 100000 in
set_option maxHeartbeats 4000000 in
theorem c_X7_goesNext (l : Launch) (Y : qaY) (m : qaM) (q : qaM) (hf : f_X7_goesNext m = some q) : qaMv l Y yX7_goesNext cX7_goesNext 3 2 [.ref (Y.2.2.1 36)] m q := by
  refine qa_entv (by decide +kernel) (Nat.le_of_ble_eq_true rfl) fun X hC hQ => ?_
  have hK : qa_eq q q := rfl
  unfold f_X7_goesNext at hf
  exact tl_X7_goesNext_0 hC hQ hf hK
set_option maxRecDepth 100000 in
set_option maxHeartbeats 4000000 in
theorem c_X7_opensOne (l : Launch) (Y : qaY) (m : qaM) (v1 : Int32) (q : Int32 × qaM) (hf : f_X7_opensOne m v1 = some q) : qaMi l Y yX7_opensOne cX7_opensOne 2 (some .boolean) 2 [.ref (Y.2.2.1 36), .int v1] m q.2 q.1 := by
  refine qa_enti (by decide +kernel) (Nat.le_of_ble_eq_true rfl) fun X hC hQ => ?_
  have hK : qa_eq q q := rfl
  unfold f_X7_opensOne at hf
  refine qi_aload_n hC 0 rfl rfl dX7_opensOne_0 ?_
  refine qi_geti hC kf_X7_136 sh_36 rfl dX7_opensOne_1 ?_
  refine qi_iconst hC dX7_opensOne_4 kn_iconst_5 ?_
  refine qi_icmp_ne (tgt := 10) hC (by decide) dX7_opensOne_5 (fun h => ?_) (fun h => ?_)
  · replace hf := qa_if_f h hf
    refine qi_aload_n hC 0 rfl rfl dX7_opensOne_10 ?_
    refine qi_dup hC rfl dX7_opensOne_11 ?_
    refine qi_geti hC kf_X7_136 sh_36 rfl dX7_opensOne_12 ?_
    refine qi_iconst hC dX7_opensOne_15 kn_iconst_1 ?_
    refine qi_iadd hC dX7_opensOne_16 ?_
    obtain ⟨m1, em1, hf⟩ := qa_lt_e hf
    refine qi_puti hC em1 kp_X7_136 sh_36 rfl rfl rfl dX7_opensOne_17 ?_
    refine qi_aload_n hC 0 rfl rfl dX7_opensOne_20 ?_
    refine qi_iload_n hC 1 rfl rfl dX7_opensOne_21 ?_
    obtain ⟨q2, hq2, hf⟩ := Option.bind_eq_some_iff.mp hf
    refine qi_callVv hC (as := [.int v1]) (c_X7_holds _ _ _ _ _ hq2) kl_X7_143 sh_36 kc_X7_holds rfl rfl (by decide) (by decide) (Nat.le_of_ble_eq_true rfl) dX7_opensOne_22 ?_
    refine qi_iconst hC dX7_opensOne_25 kn_iconst_1 ?_
    obtain rfl := Option.some.inj hf
    exact qi_iretz hC hQ hK rfl dX7_opensOne_26
  · replace hf := qa_if_t h hf
    refine qi_iconst hC dX7_opensOne_8 kn_iconst_0 ?_
    obtain rfl := Option.some.inj hf
    exact qi_iretz hC hQ hK rfl dX7_opensOne_9
set_option maxRecDepth 100000 in
set_option maxHeartbeats 4000000 in
theorem c_X7_signOf (l : Launch) (Y : qaY) (m : qaM) (q : Int32) (hf : f_X7_signOf m = some q) : qaMi l Y yX7_signOf cX7_signOf 1 (some .int) 1 [.ref (Y.2.2.1 36)] m m q := by
  refine qa_enti (by decide +kernel) (Nat.le_of_ble_eq_true rfl) fun X hC hQ => ?_
  have hK : qa_eq q q := rfl
  unfold f_X7_signOf at hf
  refine qi_aload_n hC 0 rfl rfl dX7_signOf_0 ?_
  refine qi_geti hC kf_X7_116 sh_36 rfl dX7_signOf_1 ?_
  refine qi_iconst hC dX7_signOf_4 kn_iconst_4 ?_
  refine qi_icmp_ne (tgt := 13) hC (by decide) dX7_signOf_5 (fun h => ?_) (fun h => ?_)
  · replace hf := qa_if_f h hf
    refine qi_aload_n hC 0 rfl rfl dX7_signOf_13 ?_
    refine qi_geti hC kf_X7_116 sh_36 rfl dX7_signOf_14 ?_
    refine qi_iconst hC dX7_signOf_17 kn_iconst_5 ?_
    refine qi_icmp_ne (tgt := 26) hC (by decide) dX7_signOf_18 (fun h => ?_) (fun h => ?_)
    · replace hf := qa_if_f h hf
      refine qi_aload_n hC 0 rfl rfl dX7_signOf_26 ?_
      refine qi_geti hC kf_X7_116 sh_36 rfl dX7_signOf_27 ?_
      refine qi_bipush hC dX7_signOf_30 kn_bipush_60 ?_
      refine qi_icmp_ne (tgt := 40) hC (by decide) dX7_signOf_32 (fun h => ?_) (fun h => ?_)
      · replace hf := qa_if_f h hf
        refine qi_aload_n hC 0 rfl rfl dX7_signOf_40 ?_
        refine qi_geti hC kf_X7_116 sh_36 rfl dX7_signOf_41 ?_
        refine qi_bipush hC dX7_signOf_44 kn_bipush_61 ?_
        refine qi_icmp_ne (tgt := 54) hC (by decide) dX7_signOf_46 (fun h => ?_) (fun h => ?_)
        · replace hf := qa_if_f h hf
          refine qi_aload_n hC 0 rfl rfl dX7_signOf_54 ?_
          refine qi_geti hC kf_X7_116 sh_36 rfl dX7_signOf_55 ?_
          refine qi_bipush hC dX7_signOf_58 kn_bipush_43 ?_
          refine qi_icmp_ne (tgt := 68) hC (by decide) dX7_signOf_60 (fun h => ?_) (fun h => ?_)
          · replace hf := qa_if_f h hf
            refine qi_aload_n hC 0 rfl rfl dX7_signOf_68 ?_
            refine qi_geti hC kf_X7_116 sh_36 rfl dX7_signOf_69 ?_
            refine qi_bipush hC dX7_signOf_72 kn_bipush_45 ?_
            refine qi_icmp_ne (tgt := 82) hC (by decide) dX7_signOf_74 (fun h => ?_) (fun h => ?_)
            · replace hf := qa_if_f h hf
              refine qi_aload_n hC 0 rfl rfl dX7_signOf_82 ?_
              refine qi_geti hC kf_X7_116 sh_36 rfl dX7_signOf_83 ?_
              refine qi_bipush hC dX7_signOf_86 kn_bipush_42 ?_
              refine qi_icmp_ne (tgt := 96) hC (by decide) dX7_signOf_88 (fun h => ?_) (fun h => ?_)
              · replace hf := qa_if_f h hf
                refine qi_iconst hC dX7_signOf_96 kn_iconst_m1 ?_
                obtain rfl := Option.some.inj hf
                exact qi_ireti hC hQ (congrArg (fun w => (w, m)) hK) dX7_signOf_97
              · replace hf := qa_if_t h hf
                refine qi_bipush hC dX7_signOf_91 kn_bipush_18 ?_
                refine qi_goto (tgt := 97) hC (by decide) dX7_signOf_93 ?_
                obtain rfl := Option.some.inj hf
                exact qi_ireti hC hQ (congrArg (fun w => (w, m)) hK) dX7_signOf_97
            · replace hf := qa_if_t h hf
              refine qi_bipush hC dX7_signOf_77 kn_bipush_17 ?_
              refine qi_goto (tgt := 97) hC (by decide) dX7_signOf_79 ?_
              obtain rfl := Option.some.inj hf
              exact qi_ireti hC hQ (congrArg (fun w => (w, m)) hK) dX7_signOf_97
          · replace hf := qa_if_t h hf
            refine qi_bipush hC dX7_signOf_63 kn_bipush_16 ?_
            refine qi_goto (tgt := 97) hC (by decide) dX7_signOf_65 ?_
            obtain rfl := Option.some.inj hf
            exact qi_ireti hC hQ (congrArg (fun w => (w, m)) hK) dX7_signOf_97
        · replace hf := qa_if_t h hf
          refine qi_bipush hC dX7_signOf_49 kn_bipush_15 ?_
          refine qi_goto (tgt := 97) hC (by decide) dX7_signOf_51 ?_
          obtain rfl := Option.some.inj hf
          exact qi_ireti hC hQ (congrArg (fun w => (w, m)) hK) dX7_signOf_97
      · replace hf := qa_if_t h hf
        refine qi_bipush hC dX7_signOf_35 kn_bipush_14 ?_
        refine qi_goto (tgt := 97) hC (by decide) dX7_signOf_37 ?_
        obtain rfl := Option.some.inj hf
        exact qi_ireti hC hQ (congrArg (fun w => (w, m)) hK) dX7_signOf_97
    · replace hf := qa_if_t h hf
      refine qi_bipush hC dX7_signOf_21 kn_bipush_12 ?_
      refine qi_goto (tgt := 97) hC (by decide) dX7_signOf_23 ?_
      obtain rfl := Option.some.inj hf
      exact qi_ireti hC hQ (congrArg (fun w => (w, m)) hK) dX7_signOf_97
  · replace hf := qa_if_t h hf
    refine qi_bipush hC dX7_signOf_8 kn_bipush_11 ?_
    refine qi_goto (tgt := 97) hC (by decide) dX7_signOf_10 ?_
    obtain rfl := Option.some.inj hf
    exact qi_ireti hC hQ (congrArg (fun w => (w, m)) hK) dX7_signOf_97
set_option maxRecDepth 100000 in
set_option maxHeartbeats 4000000 in
theorem t_X7_eRead_262 {X : qaX} {l : Launch} {Y : qaY} {fin : Int32 × qaM} (hC : QC X l Y cX7_eRead RX7 4 4) (hQ : QRi X Y (some .boolean) fin.2 fin.1) {m : qaM} {v1 : Int32} {s0 : Int32} {z : ((qaM × Int32 × Int32) ⊕ (Int32 × qaM))} (hf : b_X7_eRead_262 m v1 s0 = some z) (hK : (qa_K (fun s => QG X Y 4 s.1 14 [(0, .ref (Y.2.2.1 36)), (1, .int s.2.1), (2, .int s.2.2)] []) (qa_eq fin)) z) : QG X Y 4 m 262 [(0, .ref (Y.2.2.1 36)), (1, .int v1)] [.int s0] := by
  unfold b_X7_eRead_262 at hf
  refine qi_istore_n hC rfl (by decide) rfl dX7_eRead_262 ?_
  refine qi_goto (tgt := 14) hC (by decide) dX7_eRead_263 ?_
  obtain rfl := Option.some.inj hf
  refine qi_sub hC [1, 2, 0] rfl ?_
  exact hK
set_option maxRecDepth 100000 in
set_option maxHeartbeats 4000000 in
theorem t_X7_eRead_159 {X : qaX} {l : Launch} {Y : qaY} {fin : Int32 × qaM} (hC : QC X l Y cX7_eRead RX7 4 4) (hQ : QRi X Y (some .boolean) fin.2 fin.1) {m : qaM} {z : (Int32 × qaM)} (hf : b_X7_eRead_159 m = some z) (hK : (qa_eq fin) z) : QG X Y 4 m 159 [(0, .ref (Y.2.2.1 36))] [] := by
  unfold b_X7_eRead_159 at hf
  refine qi_aload_n hC 0 rfl rfl dX7_eRead_159 ?_
  refine qi_iconst hC dX7_eRead_160 kn_iconst_1 ?_
  obtain ⟨q10, hq10, hf⟩ := Option.bind_eq_some_iff.mp hf
  refine qi_callVv hC (as := [.int (1 : Int32)]) (c_X7_unwinds _ _ _ _ _ hq10) kl_X7_146 sh_36 kc_X7_unwinds rfl rfl (by decide) (by decide) (Nat.le_of_ble_eq_true rfl) dX7_eRead_161 ?_
  refine qi_aload_n hC 0 rfl rfl dX7_eRead_164 ?_
  refine qi_geti hC kf_X7_129 sh_36 rfl dX7_eRead_165 ?_
  refine qi_if_ne (tgt := 175) hC (by decide) dX7_eRead_168 (fun h => ?_) (fun h => ?_)
  · replace hf := qa_if_f h hf
    refine qi_iconst hC dX7_eRead_175 kn_iconst_0 ?_
    obtain rfl := Option.some.inj hf
    exact qi_iretz hC hQ hK rfl dX7_eRead_176
  · replace hf := qa_if_t h hf
    refine qi_iconst hC dX7_eRead_171 kn_iconst_1 ?_
    refine qi_goto (tgt := 176) hC (by decide) dX7_eRead_172 ?_
    obtain rfl := Option.some.inj hf
    exact qi_iretz hC hQ hK rfl dX7_eRead_176
set_option maxRecDepth 100000 in
set_option maxHeartbeats 4000000 in
theorem t_X7_eRead_61 {X : qaX} {l : Launch} {Y : qaY} {fin : Int32 × qaM} (hC : QC X l Y cX7_eRead RX7 4 4) (hQ : QRi X Y (some .boolean) fin.2 fin.1) {m : qaM} {v2 : Int32} {s1 : Int32} {z : ((qaM × Int32 × Int32) ⊕ (Int32 × qaM))} (hf : b_X7_eRead_61 m v2 s1 = some z) (hK : (qa_K (fun s => QG X Y 4 s.1 14 [(0, .ref (Y.2.2.1 36)), (1, .int s.2.1), (2, .int s.2.2)] []) (qa_eq fin)) z) : QG X Y 4 m 61 [(0, .ref (Y.2.2.1 36)), (2, .int v2)] [.int s1, .ref (Y.2.2.1 36)] := by
  unfold b_X7_eRead_61 at hf
  obtain ⟨q11, hq11, hf⟩ := Option.bind_eq_some_iff.mp hf
  refine qi_callVv hC (as := [.int s1]) (c_X7_puts _ _ _ _ _ hq11) kl_X7_139 sh_36 kc_X7_puts rfl rfl (by decide) (by decide) (Nat.le_of_ble_eq_true rfl) dX7_eRead_61 ?_
  refine qi_aload_n hC 0 rfl rfl dX7_eRead_64 ?_
  refine qi_bipush hC dX7_eRead_65 kn_bipush_7 ?_
  obtain ⟨q12, hq12, hf⟩ := Option.bind_eq_some_iff.mp hf
  refine qi_callVv hC (as := [.int (7 : Int32)]) (c_X7_unwinds _ _ _ _ _ hq12) kl_X7_146 sh_36 kc_X7_unwinds rfl rfl (by decide) (by decide) (Nat.le_of_ble_eq_true rfl) dX7_eRead_67 ?_
  refine qi_iconst hC dX7_eRead_70 kn_iconst_0 ?_
  refine qi_istore_n hC rfl (by decide) rfl dX7_eRead_71 ?_
  refine qi_goto (tgt := 14) hC (by decide) dX7_eRead_72 ?_
  obtain rfl := Option.some.inj hf
  refine qi_sub hC [1, 0, 2] rfl ?_
  exact hK
set_option maxRecDepth 100000 in
set_option maxHeartbeats 4000000 in
theorem t_X7_eRead_38 {X : qaX} {l : Launch} {Y : qaY} {fin : Int32 × qaM} (hC : QC X l Y cX7_eRead RX7 4 4) (hQ : QRi X Y (some .boolean) fin.2 fin.1) {m : qaM} {v2 : Int32} {z : ((qaM × Int32 × Int32) ⊕ (Int32 × qaM))} (hf : b_X7_eRead_38 m v2 = some z) (hK : (qa_K (fun s => QG X Y 4 s.1 14 [(0, .ref (Y.2.2.1 36)), (1, .int s.2.1), (2, .int s.2.2)] []) (qa_eq fin)) z) : QG X Y 4 m 38 [(0, .ref (Y.2.2.1 36)), (2, .int v2)] [] := by
  unfold b_X7_eRead_38 at hf
  refine qi_aload_n hC 0 rfl rfl dX7_eRead_38 ?_
  refine qi_aload_n hC 0 rfl rfl dX7_eRead_39 ?_
  refine qi_geti hC kf_X7_116 sh_36 rfl dX7_eRead_40 ?_
  refine qi_iconst hC dX7_eRead_43 kn_iconst_1 ?_
  refine qi_icmp_ne (tgt := 57) hC (by decide) dX7_eRead_44 (fun h => ?_) (fun h => ?_)
  · replace hf := qa_if_f h hf
    refine qi_aload_n hC 0 rfl rfl dX7_eRead_57 ?_
    refine qi_geti hC kf_X7_119 sh_36 rfl dX7_eRead_58 ?_
    exact t_X7_eRead_61 hC hQ hf hK
  · replace hf := qa_if_t h hf
    refine qi_ldc hC kk_X7_152 dX7_eRead_47 ?_
    refine qi_aload_n hC 0 rfl rfl dX7_eRead_49 ?_
    refine qi_geti hC kf_X7_119 sh_36 rfl dX7_eRead_50 ?_
    refine qi_iadd hC dX7_eRead_53 ?_
    refine qi_goto (tgt := 61) hC (by decide) dX7_eRead_54 ?_
    exact t_X7_eRead_61 hC hQ hf hK
set_option maxRecDepth 100000 in
set_option maxHeartbeats 4000000 in
theorem t_X7_eRead_99 {X : qaX} {l : Launch} {Y : qaY} {fin : Int32 × qaM} (hC : QC X l Y cX7_eRead RX7 4 4) (hQ : QRi X Y (some .boolean) fin.2 fin.1) {m : qaM} {v1 : Int32} {z : ((qaM × Int32 × Int32) ⊕ (Int32 × qaM))} (hf : b_X7_eRead_99 m v1 = some z) (hK : (qa_K (fun s => QG X Y 4 s.1 14 [(0, .ref (Y.2.2.1 36)), (1, .int s.2.1), (2, .int s.2.2)] []) (qa_eq fin)) z) : QG X Y 4 m 99 [(0, .ref (Y.2.2.1 36)), (1, .int v1)] [] := by
  unfold b_X7_eRead_99 at hf
  refine qi_aload_n hC 0 rfl rfl dX7_eRead_99 ?_
  refine qi_geti hC kf_X7_116 sh_36 rfl dX7_eRead_100 ?_
  refine qi_bipush hC dX7_eRead_103 kn_bipush_45 ?_
  refine qi_icmp_ne (tgt := 124) hC (by decide) dX7_eRead_105 (fun h => ?_) (fun h => ?_)
  · replace hf := qa_if_f h hf
    refine qi_aload_n hC 0 rfl rfl dX7_eRead_124 ?_
    refine qi_geti hC kf_X7_116 sh_36 rfl dX7_eRead_125 ?_
    refine qi_bipush hC dX7_eRead_128 kn_bipush_40 ?_
    refine qi_icmp_ne (tgt := 148) hC (by decide) dX7_eRead_130 (fun h => ?_) (fun h => ?_)
    · replace hf := qa_if_f h hf
      refine qi_iconst hC dX7_eRead_148 kn_iconst_0 ?_
      obtain ⟨z, rfl, hg⟩ := qa_inr_e hf; have hf := hg
      obtain rfl := Option.some.inj hf
      exact qi_iretz hC hQ hK rfl dX7_eRead_149
    · replace hf := qa_if_t h hf
      refine qi_aload_n hC 0 rfl rfl dX7_eRead_133 ?_
      refine qi_iconst hC dX7_eRead_134 kn_iconst_0 ?_
      obtain ⟨q13, hq13, hf⟩ := Option.bind_eq_some_iff.mp hf
      refine qi_callVi hC (as := [.int (0 : Int32)]) (c_X7_opensOne _ _ _ _ _ hq13) kl_X7_153 sh_36 kc_X7_opensOne rfl rfl (by decide) (by decide) (Nat.le_of_ble_eq_true rfl) dX7_eRead_135 ?_
      refine qi_if_ne (tgt := 143) hC (by decide) dX7_eRead_138 (fun h => ?_) (fun h => ?_)
      · replace hf := qa_if_f h hf
        refine qi_iconst hC dX7_eRead_143 kn_iconst_1 ?_
        refine qi_istore_n hC rfl (by decide) rfl dX7_eRead_144 ?_
        refine qi_goto (tgt := 14) hC (by decide) dX7_eRead_145 ?_
        obtain rfl := Option.some.inj hf
        refine qi_sub hC [1, 2, 0] rfl ?_
        exact hK
      · replace hf := qa_if_t h hf
        refine qi_iconst hC dX7_eRead_141 kn_iconst_0 ?_
        obtain ⟨z, rfl, hg⟩ := qa_inr_e hf; have hf := hg
        obtain rfl := Option.some.inj hf
        exact qi_iretz hC hQ hK rfl dX7_eRead_142
  · replace hf := qa_if_t h hf
    refine qi_aload_n hC 0 rfl rfl dX7_eRead_108 ?_
    refine qi_bipush hC dX7_eRead_109 kn_bipush_19 ?_
    obtain ⟨q14, hq14, hf⟩ := Option.bind_eq_some_iff.mp hf
    refine qi_callVi hC (as := [.int (19 : Int32)]) (c_X7_opensOne _ _ _ _ _ hq14) kl_X7_153 sh_36 kc_X7_opensOne rfl rfl (by decide) (by decide) (Nat.le_of_ble_eq_true rfl) dX7_eRead_111 ?_
    refine qi_if_ne (tgt := 119) hC (by decide) dX7_eRead_114 (fun h => ?_) (fun h => ?_)
    · replace hf := qa_if_f h hf
      refine qi_iconst hC dX7_eRead_119 kn_iconst_0 ?_
      refine qi_istore_n hC rfl (by decide) rfl dX7_eRead_120 ?_
      refine qi_goto (tgt := 14) hC (by decide) dX7_eRead_121 ?_
      obtain rfl := Option.some.inj hf
      refine qi_sub hC [1, 2, 0] rfl ?_
      exact hK
    · replace hf := qa_if_t h hf
      refine qi_iconst hC dX7_eRead_117 kn_iconst_0 ?_
      obtain ⟨z, rfl, hg⟩ := qa_inr_e hf; have hf := hg
      obtain rfl := Option.some.inj hf
      exact qi_iretz hC hQ hK rfl dX7_eRead_118
set_option maxRecDepth 100000 in
set_option maxHeartbeats 4000000 in
theorem t_X7_eRead_14 {X : qaX} {l : Launch} {Y : qaY} {fin : Int32 × qaM} (hC : QC X l Y cX7_eRead RX7 4 4) (hQ : QRi X Y (some .boolean) fin.2 fin.1) {m : qaM} {v1 : Int32} {v2 : Int32} {z : ((qaM × Int32 × Int32) ⊕ (Int32 × qaM))} (hf : b_X7_eRead_14 m v1 v2 = some z) (hK : (qa_K (fun s => QG X Y 4 s.1 14 [(0, .ref (Y.2.2.1 36)), (1, .int s.2.1), (2, .int s.2.2)] []) (qa_eq fin)) z) : QG X Y 4 m 14 [(0, .ref (Y.2.2.1 36)), (1, .int v1), (2, .int v2)] [] := by
  unfold b_X7_eRead_14 at hf
  refine qi_aload_n hC 0 rfl rfl dX7_eRead_14 ?_
  obtain ⟨q3, hq3, hf⟩ := Option.bind_eq_some_iff.mp hf
  refine qi_callVv hC (as := []) (c_X7_goesNext _ _ _ _ hq3) kl_X7_149 sh_36 kc_X7_goesNext rfl rfl (by decide) (by decide) (Nat.le_of_ble_eq_true rfl) dX7_eRead_15 ?_
  refine qi_iload_n hC 1 rfl rfl dX7_eRead_18 ?_
  refine qi_if_eq (tgt := 150) hC (by decide) dX7_eRead_19 (fun h => ?_) (fun h => ?_)
  · replace hf := qa_if_t h hf
    refine qi_aload_n hC 0 rfl rfl dX7_eRead_150 ?_
    refine qi_geti hC kf_X7_116 sh_36 rfl dX7_eRead_151 ?_
    refine qi_bipush hC dX7_eRead_154 kn_bipush_59 ?_
    refine qi_icmp_ne (tgt := 177) hC (by decide) dX7_eRead_156 (fun h => ?_) (fun h => ?_)
    · replace hf := qa_if_f h hf
      refine qi_aload_n hC 0 rfl rfl dX7_eRead_177 ?_
      refine qi_geti hC kf_X7_116 sh_36 rfl dX7_eRead_178 ?_
      refine qi_bipush hC dX7_eRead_181 kn_bipush_41 ?_
      refine qi_icmp_ne (tgt := 229) hC (by decide) dX7_eRead_183 (fun h => ?_) (fun h => ?_)
      · replace hf := qa_if_f h hf
        refine qi_aload_n hC 0 rfl rfl dX7_eRead_229 ?_
        obtain ⟨q4, hq4, hf⟩ := Option.bind_eq_some_iff.mp hf
        refine qi_callVi hC (as := []) (c_X7_signOf _ _ _ _ hq4) kl_X7_156 sh_36 kc_X7_signOf rfl rfl (by decide) (by decide) (Nat.le_of_ble_eq_true rfl) dX7_eRead_230 ?_
        refine qi_istore_n hC rfl (by decide) rfl dX7_eRead_233 ?_
        refine qi_iload_n hC 0 rfl rfl dX7_eRead_234 ?_
        refine qi_iconst hC dX7_eRead_235 kn_iconst_m1 ?_
        refine qi_icmp_eq (tgt := 247) hC (by decide) dX7_eRead_236 (fun h => ?_) (fun h => ?_)
        · replace hf := qa_if_t h hf
          refine qi_iconst hC dX7_eRead_247 kn_iconst_0 ?_
          obtain ⟨z, rfl, hg⟩ := qa_inr_e hf; have hf := hg
          obtain rfl := Option.some.inj hf
          exact qi_iretz hC hQ hK rfl dX7_eRead_248
        · replace hf := qa_if_f h hf
          refine qi_aload_n hC 1 rfl rfl dX7_eRead_239 ?_
          refine qi_iload_n hC 0 rfl rfl dX7_eRead_240 ?_
          obtain ⟨q5, hq5, hf⟩ := Option.bind_eq_some_iff.mp hf
          refine qi_callVi hC (as := [.int q4]) (c_X7_between _ _ _ _ _ hq5) kl_X7_159 sh_36 kc_X7_between rfl rfl (by decide) (by decide) (Nat.le_of_ble_eq_true rfl) dX7_eRead_241 ?_
          refine qi_if_ne (tgt := 249) hC (by decide) dX7_eRead_244 (fun h => ?_) (fun h => ?_)
          · replace hf := qa_if_f h hf
            refine qi_iconst hC dX7_eRead_249 kn_iconst_1 ?_
            refine qi_istore_n hC rfl (by decide) rfl dX7_eRead_250 ?_
            refine qi_iload_n hC 1 rfl rfl dX7_eRead_251 ?_
            refine qi_bipush hC dX7_eRead_252 kn_bipush_12 ?_
            refine qi_icmp_gt (tgt := 261) hC (by decide) dX7_eRead_254 (fun h => ?_) (fun h => ?_)
            · replace hf := qa_if_t h hf
              refine qi_iconst hC dX7_eRead_261 kn_iconst_0 ?_
              refine qi_sub hC [2, 0] rfl ?_
              exact t_X7_eRead_262 hC hQ hf hK
            · replace hf := qa_if_f h hf
              refine qi_iconst hC dX7_eRead_257 kn_iconst_1 ?_
              refine qi_goto (tgt := 262) hC (by decide) dX7_eRead_258 ?_
              refine qi_sub hC [2, 0] rfl ?_
              exact t_X7_eRead_262 hC hQ hf hK
          · replace hf := qa_if_t h hf
            refine qi_iconst hC dX7_eRead_247 kn_iconst_0 ?_
            obtain ⟨z, rfl, hg⟩ := qa_inr_e hf; have hf := hg
            obtain rfl := Option.some.inj hf
            exact qi_iretz hC hQ hK rfl dX7_eRead_248
      · replace hf := qa_if_t h hf
        refine qi_aload_n hC 0 rfl rfl dX7_eRead_186 ?_
        refine qi_iconst hC dX7_eRead_187 kn_iconst_1 ?_
        obtain ⟨q6, hq6, hf⟩ := Option.bind_eq_some_iff.mp hf
        refine qi_callVv hC (as := [.int (1 : Int32)]) (c_X7_unwinds _ _ _ _ _ hq6) kl_X7_146 sh_36 kc_X7_unwinds rfl rfl (by decide) (by decide) (Nat.le_of_ble_eq_true rfl) dX7_eRead_188 ?_
        refine qi_aload_n hC 0 rfl rfl dX7_eRead_191 ?_
        refine qi_geti hC kf_X7_129 sh_36 rfl dX7_eRead_192 ?_
        refine qi_if_ne (tgt := 200) hC (by decide) dX7_eRead_195 (fun h => ?_) (fun h => ?_)
        · replace hf := qa_if_f h hf
          refine qi_aload_n hC 0 rfl rfl dX7_eRead_200 ?_
          refine qi_dup hC rfl dX7_eRead_201 ?_
          refine qi_geti hC kf_X7_129 sh_36 rfl dX7_eRead_202 ?_
          refine qi_iconst hC dX7_eRead_205 kn_iconst_1 ?_
          refine qi_isub hC dX7_eRead_206 ?_
          obtain ⟨m7, em7, hf⟩ := qa_lt_e hf
          refine qi_puti hC em7 kp_X7_129 sh_36 rfl rfl rfl dX7_eRead_207 ?_
          refine qi_aload_n hC 0 rfl rfl dX7_eRead_210 ?_
          refine qi_dup hC rfl dX7_eRead_211 ?_
          refine qi_geti hC kf_X7_136 sh_36 rfl dX7_eRead_212 ?_
          refine qi_iconst hC dX7_eRead_215 kn_iconst_1 ?_
          refine qi_isub hC dX7_eRead_216 ?_
          obtain ⟨m8, em8, hf⟩ := qa_lt_e hf
          refine qi_puti hC em8 kp_X7_136 sh_36 rfl rfl rfl dX7_eRead_217 ?_
          refine qi_aload_n hC 0 rfl rfl dX7_eRead_220 ?_
          refine qi_bipush hC dX7_eRead_221 kn_bipush_7 ?_
          obtain ⟨q9, hq9, hf⟩ := Option.bind_eq_some_iff.mp hf
          refine qi_callVv hC (as := [.int (7 : Int32)]) (c_X7_unwinds _ _ _ _ _ hq9) kl_X7_146 sh_36 kc_X7_unwinds rfl rfl (by decide) (by decide) (Nat.le_of_ble_eq_true rfl) dX7_eRead_223 ?_
          refine qi_goto (tgt := 14) hC (by decide) dX7_eRead_226 ?_
          obtain rfl := Option.some.inj hf
          exact hK
        · replace hf := qa_if_t h hf
          refine qi_iconst hC dX7_eRead_198 kn_iconst_0 ?_
          obtain ⟨z, rfl, hg⟩ := qa_inr_e hf; have hf := hg
          obtain rfl := Option.some.inj hf
          exact qi_iretz hC hQ hK rfl dX7_eRead_199
    · replace hf := qa_if_t h hf
      obtain ⟨z, rfl, hg⟩ := qa_inr_e hf; have hf := hg
      refine qi_sub hC [0] rfl ?_
      exact t_X7_eRead_159 hC hQ hf hK
  · replace hf := qa_if_f h hf
    refine qi_aload_n hC 0 rfl rfl dX7_eRead_22 ?_
    refine qi_geti hC kf_X7_116 sh_36 rfl dX7_eRead_23 ?_
    refine qi_iconst hC dX7_eRead_26 kn_iconst_1 ?_
    refine qi_icmp_eq (tgt := 38) hC (by decide) dX7_eRead_27 (fun h => ?_) (fun h => ?_)
    · replace hf := qa_if_t h hf
      refine qi_sub hC [0, 2] rfl ?_
      exact t_X7_eRead_38 hC hQ hf hK
    · replace hf := qa_if_f h hf
      refine qi_aload_n hC 0 rfl rfl dX7_eRead_30 ?_
      refine qi_geti hC kf_X7_116 sh_36 rfl dX7_eRead_31 ?_
      refine qi_iconst hC dX7_eRead_34 kn_iconst_2 ?_
      refine qi_icmp_ne (tgt := 75) hC (by decide) dX7_eRead_35 (fun h => ?_) (fun h => ?_)
      · replace hf := qa_if_f h hf
        refine qi_aload_n hC 0 rfl rfl dX7_eRead_75 ?_
        refine qi_geti hC kf_X7_116 sh_36 rfl dX7_eRead_76 ?_
        refine qi_bipush hC dX7_eRead_79 kn_bipush_6 ?_
        refine qi_icmp_ne (tgt := 99) hC (by decide) dX7_eRead_81 (fun h => ?_) (fun h => ?_)
        · replace hf := qa_if_f h hf
          refine qi_sub hC [0, 1] rfl ?_
          exact t_X7_eRead_99 hC hQ hf hK
        · replace hf := qa_if_t h hf
          refine qi_iload_n hC 2 rfl rfl dX7_eRead_84 ?_
          refine qi_if_eq (tgt := 99) hC (by decide) dX7_eRead_85 (fun h => ?_) (fun h => ?_)
          · replace hf := qa_if_t h hf
            refine qi_sub hC [0, 1] rfl ?_
            exact t_X7_eRead_99 hC hQ hf hK
          · replace hf := qa_if_f h hf
            refine qi_aload_n hC 0 rfl rfl dX7_eRead_88 ?_
            refine qi_bipush hC dX7_eRead_89 kn_bipush_13 ?_
            obtain ⟨q15, hq15, hf⟩ := Option.bind_eq_some_iff.mp hf
            refine qi_callVi hC (as := [.int (13 : Int32)]) (c_X7_opensOne _ _ _ _ _ hq15) kl_X7_153 sh_36 kc_X7_opensOne rfl rfl (by decide) (by decide) (Nat.le_of_ble_eq_true rfl) dX7_eRead_91 ?_
            refine qi_if_ne (tgt := 14) hC (by decide) dX7_eRead_94 (fun h => ?_) (fun h => ?_)
            · replace hf := qa_if_f h hf
              obtain rfl := Option.some.inj hf
              exact hK
            · replace hf := qa_if_t h hf
              refine qi_iconst hC dX7_eRead_97 kn_iconst_0 ?_
              obtain ⟨z, rfl, hg⟩ := qa_inr_e hf; have hf := hg
              obtain rfl := Option.some.inj hf
              exact qi_iretz hC hQ hK rfl dX7_eRead_98
      · replace hf := qa_if_t h hf
        refine qi_sub hC [0, 2] rfl ?_
        exact t_X7_eRead_38 hC hQ hf hK
set_option maxRecDepth 100000 in
set_option maxHeartbeats 4000000 in
theorem tn_X7_eRead_14 {X : qaX} {l : Launch} {Y : qaY} {fin : Int32 × qaM} (hC : QC X l Y cX7_eRead RX7 4 4) (hQ : QRi X Y (some .boolean) fin.2 fin.1) {z : (Int32 × qaM)} (hK : (qa_eq fin) z) : ∀ (n : Nat) (s : qaM × Int32 × Int32), qa_lp (fun s => b_X7_eRead_14 s.1 s.2.1 s.2.2) n s = some z → QG X Y 4 s.1 14 [(0, .ref (Y.2.2.1 36)), (1, .int s.2.1), (2, .int s.2.2)] [] := by
  intro n
  induction n with
  | zero => intro s hf; cases hf
  | succ n ih =>
    intro s hf
    obtain ⟨y, hy, hf⟩ := qa_lp_e hf
    refine t_X7_eRead_14 hC hQ hy ?_
    rcases hf with ⟨s', rfl, hf⟩ | rfl
    · exact ih s' hf
    · exact hK
set_option maxRecDepth 100000 in
set_option maxHeartbeats 4000000 in
theorem tl_X7_eRead_14 {X : qaX} {l : Launch} {Y : qaY} {fin : Int32 × qaM} (hC : QC X l Y cX7_eRead RX7 4 4) (hQ : QRi X Y (some .boolean) fin.2 fin.1) {m : qaM} {v1 : Int32} {v2 : Int32} {z : (Int32 × qaM)} (hf : lp_X7_eRead_14 m v1 v2 = some z) (hK : (qa_eq fin) z) : QG X Y 4 m 14 [(0, .ref (Y.2.2.1 36)), (1, .int v1), (2, .int v2)] [] :=
  tn_X7_eRead_14 hC hQ hK qa_F (m, v1, v2) hf
set_option maxRecDepth 100000 in
set_option maxHeartbeats 4000000 in
theorem c_X7_eRead (l : Launch) (Y : qaY) (m : qaM) (q : Int32 × qaM) (hf : f_X7_eRead m = some q) : qaMi l Y yX7_eRead cX7_eRead 4 (some .boolean) 4 [.ref (Y.2.2.1 36)] m q.2 q.1 := by
  refine qa_enti (by decide +kernel) (Nat.le_of_ble_eq_true rfl) fun X hC hQ => ?_
  have hK : qa_eq q q := rfl
  unfold f_X7_eRead at hf
  refine qi_aload_n hC 0 rfl rfl dX7_eRead_0 ?_
  refine qi_iconst hC dX7_eRead_1 kn_iconst_0 ?_
  obtain ⟨m1, em1, hf⟩ := qa_lt_e hf
  refine qi_puti hC em1 kp_X7_129 sh_36 rfl rfl rfl dX7_eRead_2 ?_
  refine qi_aload_n hC 0 rfl rfl dX7_eRead_5 ?_
  refine qi_iconst hC dX7_eRead_6 kn_iconst_0 ?_
  obtain ⟨m2, em2, hf⟩ := qa_lt_e hf
  refine qi_puti hC em2 kp_X7_136 sh_36 rfl rfl rfl dX7_eRead_7 ?_
  refine qi_iconst hC dX7_eRead_10 kn_iconst_1 ?_
  refine qi_istore_n hC rfl (by decide) rfl dX7_eRead_11 ?_
  refine qi_iconst hC dX7_eRead_12 kn_iconst_1 ?_
  refine qi_istore_n hC rfl (by decide) rfl dX7_eRead_13 ?_
  refine qi_sub hC [2, 1, 0] rfl ?_
  exact tl_X7_eRead_14 hC hQ hf hK
set_option maxRecDepth 100000 in
set_option maxHeartbeats 4000000 in
theorem t_X7_text_122 {X : qaX} {l : Launch} {Y : qaY} {fin : Int32 × qaM} (hC : QC X l Y cX7_text RX7 3 5) (hQ : QRi X Y (some .int) fin.2 fin.1) {m : qaM} {v1 : Int32} {z : (Int32 × qaM)} (hf : b_X7_text_122 m v1 = some z) (hK : (qa_eq fin) z) : QG X Y 3 m 122 [(0, .ref (Y.2.2.1 36)), (1, .int v1)] [] := by
  unfold b_X7_text_122 at hf
  refine qi_aload_n hC 0 rfl rfl dX7_text_122 ?_
  refine qi_getr hC kf_X7_31 sh_36 rfl dX7_text_123 ?_
  refine qi_iconst hC dX7_text_126 kn_iconst_4 ?_
  refine qi_aload_n hC 0 rfl rfl dX7_text_127 ?_
  refine qi_geti hC kf_X7_100 sh_36 rfl dX7_text_128 ?_
  refine qi_imul hC dX7_text_131 ?_
  refine qi_iconst hC dX7_text_132 kn_iconst_3 ?_
  refine qi_iadd hC dX7_text_133 ?_
  refine qi_aload_n hC 0 rfl rfl dX7_text_134 ?_
  refine qi_geti hC kf_X7_126 sh_36 rfl dX7_text_135 ?_
  obtain ⟨h3, hf⟩ := qa_ck_e hf
  obtain ⟨m4, em4, hf⟩ := qa_lt_e hf
  refine qi_iast hC rfl em4 sh_44 (qa_in_v h3) dX7_text_138 ?_
  refine qi_aload_n hC 0 rfl rfl dX7_text_139 ?_
  refine qi_iconst hC dX7_text_140 kn_iconst_0 ?_
  obtain ⟨m5, em5, hf⟩ := qa_lt_e hf
  refine qi_puti hC em5 kp_X7_79 sh_36 rfl rfl rfl dX7_text_141 ?_
  refine qi_iload_n hC 1 rfl rfl dX7_text_144 ?_
  refine qi_if_ne (tgt := 156) hC (by decide) dX7_text_145 (fun h => ?_) (fun h => ?_)
  · replace hf := qa_if_f h hf
    refine qi_aload_n hC 0 rfl rfl dX7_text_156 ?_
    refine qi_dup hC rfl dX7_text_157 ?_
    refine qi_geti hC kf_X7_100 sh_36 rfl dX7_text_158 ?_
    refine qi_iconst hC dX7_text_161 kn_iconst_1 ?_
    refine qi_iadd hC dX7_text_162 ?_
    obtain ⟨m6, em6, hf⟩ := qa_lt_e hf
    refine qi_puti hC em6 kp_X7_100 sh_36 rfl rfl rfl dX7_text_163 ?_
    refine qi_aload_n hC 0 rfl rfl dX7_text_166 ?_
    refine qi_geti hC kf_X7_100 sh_36 rfl dX7_text_167 ?_
    refine qi_iconst hC dX7_text_170 kn_iconst_1 ?_
    refine qi_isub hC dX7_text_171 ?_
    obtain rfl := Option.some.inj hf
    exact qi_ireti hC hQ hK dX7_text_172
  · replace hf := qa_if_t h hf
    refine qi_bipush hC dX7_text_148 kn_bipush_m100 ?_
    refine qi_aload_n hC 0 rfl rfl dX7_text_150 ?_
    refine qi_geti hC kf_X7_113 sh_36 rfl dX7_text_151 ?_
    refine qi_isub hC dX7_text_154 ?_
    obtain rfl := Option.some.inj hf
    exact qi_ireti hC hQ hK dX7_text_155
set_option maxRecDepth 100000 in
set_option maxHeartbeats 4000000 in
theorem t_X7_text_121 {X : qaX} {l : Launch} {Y : qaY} {fin : Int32 × qaM} (hC : QC X l Y cX7_text RX7 3 5) (hQ : QRi X Y (some .int) fin.2 fin.1) {m : qaM} {s0 : Int32} {z : (Int32 × qaM)} (hf : b_X7_text_121 m s0 = some z) (hK : (qa_eq fin) z) : QG X Y 3 m 121 [(0, .ref (Y.2.2.1 36))] [.int s0] := by
  unfold b_X7_text_121 at hf
  refine qi_istore_n hC rfl (by decide) rfl dX7_text_121 ?_
  refine qi_sub hC [1, 0] rfl ?_
  exact t_X7_text_122 hC hQ hf hK
set_option maxRecDepth 100000 in
set_option maxHeartbeats 4000000 in
theorem t_X7_text_101 {X : qaX} {l : Launch} {Y : qaY} {fin : Int32 × qaM} (hC : QC X l Y cX7_text RX7 3 5) (hQ : QRi X Y (some .int) fin.2 fin.1) {m : qaM} {v1 : Int32} {z : (Int32 × qaM)} (hf : b_X7_text_101 m v1 = some z) (hK : (qa_eq fin) z) : QG X Y 3 m 101 [(0, .ref (Y.2.2.1 36)), (1, .int v1)] [] := by
  unfold b_X7_text_101 at hf
  refine qi_iload_n hC 1 rfl rfl dX7_text_101 ?_
  refine qi_if_eq (tgt := 122) hC (by decide) dX7_text_102 (fun h => ?_) (fun h => ?_)
  · replace hf := qa_if_t h hf
    exact t_X7_text_122 hC hQ hf hK
  · replace hf := qa_if_f h hf
    refine qi_aload_n hC 0 rfl rfl dX7_text_105 ?_
    obtain ⟨q7, hq7, hf⟩ := Option.bind_eq_some_iff.mp hf
    refine qi_callVv hC (as := []) (c_X7_goesNext _ _ _ _ hq7) kl_X7_149 sh_36 kc_X7_goesNext rfl rfl (by decide) (by decide) (Nat.le_of_ble_eq_true rfl) dX7_text_106 ?_
    refine qi_aload_n hC 0 rfl rfl dX7_text_109 ?_
    refine qi_geti hC kf_X7_116 sh_36 rfl dX7_text_110 ?_
    refine qi_if_ne (tgt := 120) hC (by decide) dX7_text_113 (fun h => ?_) (fun h => ?_)
    · replace hf := qa_if_f h hf
      refine qi_iconst hC dX7_text_120 kn_iconst_0 ?_
      refine qi_sub hC [0] rfl ?_
      exact t_X7_text_121 hC hQ hf hK
    · replace hf := qa_if_t h hf
      refine qi_iconst hC dX7_text_116 kn_iconst_1 ?_
      refine qi_goto (tgt := 121) hC (by decide) dX7_text_117 ?_
      refine qi_sub hC [0] rfl ?_
      exact t_X7_text_121 hC hQ hf hK
set_option maxRecDepth 100000 in
set_option maxHeartbeats 4000000 in
theorem t_X7_text_94 {X : qaX} {l : Launch} {Y : qaY} {fin : Int32 × qaM} (hC : QC X l Y cX7_text RX7 3 5) (hQ : QRi X Y (some .int) fin.2 fin.1) {m : qaM} {v2 : Int32} {s0 : Int32} {z : ((qaM × Int32 × Int32) ⊕ (Int32 × qaM))} (hf : b_X7_text_94 m v2 s0 = some z) (hK : (qa_K (fun s => QG X Y 3 s.1 26 [(0, .ref (Y.2.2.1 36)), (1, .int s.2.1), (2, .int s.2.2)] []) (qa_eq fin)) z) : QG X Y 3 m 94 [(0, .ref (Y.2.2.1 36)), (2, .int v2)] [.int s0] := by
  unfold b_X7_text_94 at hf
  refine qi_istore_n hC rfl (by decide) rfl dX7_text_94 ?_
  obtain ⟨x11, ex11, hf⟩ := qa_lt_e hf
  refine qi_iinc hC (n := 1) (v := x11) 2 rfl ((congrArg (fun q => v2 + q) kn_iconst_1).trans ex11.symm) (by decide) rfl dX7_text_95 ?_
  refine qi_goto (tgt := 26) hC (by decide) dX7_text_98 ?_
  obtain rfl := Option.some.inj hf
  refine qi_sub hC [2, 1, 0] rfl ?_
  exact hK
set_option maxRecDepth 100000 in
set_option maxHeartbeats 4000000 in
theorem t_X7_text_93 {X : qaX} {l : Launch} {Y : qaY} {fin : Int32 × qaM} (hC : QC X l Y cX7_text RX7 3 5) (hQ : QRi X Y (some .int) fin.2 fin.1) {m : qaM} {v2 : Int32} {z : ((qaM × Int32 × Int32) ⊕ (Int32 × qaM))} (hf : b_X7_text_93 m v2 = some z) (hK : (qa_K (fun s => QG X Y 3 s.1 26 [(0, .ref (Y.2.2.1 36)), (1, .int s.2.1), (2, .int s.2.2)] []) (qa_eq fin)) z) : QG X Y 3 m 93 [(0, .ref (Y.2.2.1 36)), (2, .int v2)] [] := by
  unfold b_X7_text_93 at hf
  refine qi_iconst hC dX7_text_93 kn_iconst_0 ?_
  exact t_X7_text_94 hC hQ hf hK
set_option maxRecDepth 100000 in
set_option maxHeartbeats 4000000 in
theorem t_X7_text_60 {X : qaX} {l : Launch} {Y : qaY} {fin : Int32 × qaM} (hC : QC X l Y cX7_text RX7 3 5) (hQ : QRi X Y (some .int) fin.2 fin.1) {m : qaM} {v2 : Int32} {s0 : Int32} {z : ((qaM × Int32 × Int32) ⊕ (Int32 × qaM))} (hf : b_X7_text_60 m v2 s0 = some z) (hK : (qa_K (fun s => QG X Y 3 s.1 26 [(0, .ref (Y.2.2.1 36)), (1, .int s.2.1), (2, .int s.2.2)] []) (qa_eq fin)) z) : QG X Y 3 m 60 [(0, .ref (Y.2.2.1 36)), (2, .int v2)] [.int s0] := by
  unfold b_X7_text_60 at hf
  refine qi_istore_n hC rfl (by decide) rfl dX7_text_60 ?_
  refine qi_aload_n hC 1 rfl rfl dX7_text_61 ?_
  refine qi_getr hC kf_X7_31 sh_36 rfl dX7_text_62 ?_
  refine qi_iconst hC dX7_text_65 kn_iconst_4 ?_
  refine qi_aload_n hC 1 rfl rfl dX7_text_66 ?_
  refine qi_geti hC kf_X7_100 sh_36 rfl dX7_text_67 ?_
  refine qi_imul hC dX7_text_70 ?_
  refine qi_iload_n hC 2 rfl rfl dX7_text_71 ?_
  refine qi_iadd hC dX7_text_72 ?_
  refine qi_aload_n hC 1 rfl rfl dX7_text_73 ?_
  refine qi_geti hC kf_X7_126 sh_36 rfl dX7_text_74 ?_
  obtain ⟨h9, hf⟩ := qa_ck_e hf
  obtain ⟨m10, em10, hf⟩ := qa_lt_e hf
  refine qi_iast hC rfl em10 sh_44 (qa_in_v h9) dX7_text_77 ?_
  refine qi_iload_n hC 0 rfl rfl dX7_text_78 ?_
  refine qi_if_eq (tgt := 93) hC (by decide) dX7_text_79 (fun h => ?_) (fun h => ?_)
  · replace hf := qa_if_t h hf
    refine qi_sub hC [1, 2] rfl ?_
    exact t_X7_text_93 hC hQ hf hK
  · replace hf := qa_if_f h hf
    refine qi_aload_n hC 1 rfl rfl dX7_text_82 ?_
    obtain ⟨q12, hq12, hf⟩ := Option.bind_eq_some_iff.mp hf
    refine qi_callVi hC (as := []) (c_X7_eRead _ _ _ _ hq12) kl_X7_162 sh_36 kc_X7_eRead rfl rfl (by decide) (by decide) (Nat.le_of_ble_eq_true rfl) dX7_text_83 ?_
    refine qi_if_eq (tgt := 93) hC (by decide) dX7_text_86 (fun h => ?_) (fun h => ?_)
    · replace hf := qa_if_t h hf
      refine qi_sub hC [1, 2] rfl ?_
      exact t_X7_text_93 hC hQ hf hK
    · replace hf := qa_if_f h hf
      refine qi_iconst hC dX7_text_89 kn_iconst_1 ?_
      refine qi_goto (tgt := 94) hC (by decide) dX7_text_90 ?_
      refine qi_sub hC [1, 2] rfl ?_
      exact t_X7_text_94 hC hQ hf hK
set_option maxRecDepth 100000 in
set_option maxHeartbeats 4000000 in
theorem t_X7_text_59 {X : qaX} {l : Launch} {Y : qaY} {fin : Int32 × qaM} (hC : QC X l Y cX7_text RX7 3 5) (hQ : QRi X Y (some .int) fin.2 fin.1) {m : qaM} {v2 : Int32} {z : ((qaM × Int32 × Int32) ⊕ (Int32 × qaM))} (hf : b_X7_text_59 m v2 = some z) (hK : (qa_K (fun s => QG X Y 3 s.1 26 [(0, .ref (Y.2.2.1 36)), (1, .int s.2.1), (2, .int s.2.2)] []) (qa_eq fin)) z) : QG X Y 3 m 59 [(0, .ref (Y.2.2.1 36)), (2, .int v2)] [] := by
  unfold b_X7_text_59 at hf
  refine qi_iconst hC dX7_text_59 kn_iconst_0 ?_
  exact t_X7_text_60 hC hQ hf hK
set_option maxRecDepth 100000 in
set_option maxHeartbeats 4000000 in
theorem t_X7_text_26 {X : qaX} {l : Launch} {Y : qaY} {fin : Int32 × qaM} (hC : QC X l Y cX7_text RX7 3 5) (hQ : QRi X Y (some .int) fin.2 fin.1) {m : qaM} {v1 : Int32} {v2 : Int32} {z : ((qaM × Int32 × Int32) ⊕ (Int32 × qaM))} (hf : b_X7_text_26 m v1 v2 = some z) (hK : (qa_K (fun s => QG X Y 3 s.1 26 [(0, .ref (Y.2.2.1 36)), (1, .int s.2.1), (2, .int s.2.2)] []) (qa_eq fin)) z) : QG X Y 3 m 26 [(0, .ref (Y.2.2.1 36)), (1, .int v1), (2, .int v2)] [] := by
  unfold b_X7_text_26 at hf
  refine qi_iload_n hC 2 rfl rfl dX7_text_26 ?_
  refine qi_iconst hC dX7_text_27 kn_iconst_3 ?_
  refine qi_icmp_ge (tgt := 101) hC (by decide) dX7_text_28 (fun h => ?_) (fun h => ?_)
  · replace hf := qa_if_t h hf
    obtain ⟨z, rfl, hg⟩ := qa_inr_e hf; have hf := hg
    refine qi_sub hC [0, 1] rfl ?_
    exact t_X7_text_101 hC hQ hf hK
  · replace hf := qa_if_f h hf
    refine qi_iload_n hC 1 rfl rfl dX7_text_31 ?_
    refine qi_if_eq (tgt := 101) hC (by decide) dX7_text_32 (fun h => ?_) (fun h => ?_)
    · replace hf := qa_if_t h hf
      obtain ⟨z, rfl, hg⟩ := qa_inr_e hf; have hf := hg
      refine qi_sub hC [0, 1] rfl ?_
      exact t_X7_text_101 hC hQ hf hK
    · replace hf := qa_if_f h hf
      refine qi_aload_n hC 0 rfl rfl dX7_text_35 ?_
      obtain ⟨q8, hq8, hf⟩ := Option.bind_eq_some_iff.mp hf
      refine qi_callVv hC (as := []) (c_X7_goesNext _ _ _ _ hq8) kl_X7_149 sh_36 kc_X7_goesNext rfl rfl (by decide) (by decide) (Nat.le_of_ble_eq_true rfl) dX7_text_36 ?_
      refine qi_aload_n hC 0 rfl rfl dX7_text_39 ?_
      refine qi_geti hC kf_X7_116 sh_36 rfl dX7_text_40 ?_
      refine qi_iconst hC dX7_text_43 kn_iconst_3 ?_
      refine qi_icmp_ne (tgt := 59) hC (by decide) dX7_text_44 (fun h => ?_) (fun h => ?_)
      · replace hf := qa_if_f h hf
        refine qi_sub hC [0, 2] rfl ?_
        exact t_X7_text_59 hC hQ hf hK
      · replace hf := qa_if_t h hf
        refine qi_aload_n hC 0 rfl rfl dX7_text_47 ?_
        refine qi_geti hC kf_X7_119 sh_36 rfl dX7_text_48 ?_
        refine qi_iload_n hC 2 rfl rfl dX7_text_51 ?_
        refine qi_icmp_ne (tgt := 59) hC (by decide) dX7_text_52 (fun h => ?_) (fun h => ?_)
        · replace hf := qa_if_f h hf
          refine qi_sub hC [0, 2] rfl ?_
          exact t_X7_text_59 hC hQ hf hK
        · replace hf := qa_if_t h hf
          refine qi_iconst hC dX7_text_55 kn_iconst_1 ?_
          refine qi_goto (tgt := 60) hC (by decide) dX7_text_56 ?_
          refine qi_sub hC [0, 2] rfl ?_
          exact t_X7_text_60 hC hQ hf hK
set_option maxRecDepth 100000 in
set_option maxHeartbeats 4000000 in
theorem tn_X7_text_26 {X : qaX} {l : Launch} {Y : qaY} {fin : Int32 × qaM} (hC : QC X l Y cX7_text RX7 3 5) (hQ : QRi X Y (some .int) fin.2 fin.1) {z : (Int32 × qaM)} (hK : (qa_eq fin) z) : ∀ (n : Nat) (s : qaM × Int32 × Int32), qa_lp (fun s => b_X7_text_26 s.1 s.2.1 s.2.2) n s = some z → QG X Y 3 s.1 26 [(0, .ref (Y.2.2.1 36)), (1, .int s.2.1), (2, .int s.2.2)] [] := by
  intro n
  induction n with
  | zero => intro s hf; cases hf
  | succ n ih =>
    intro s hf
    obtain ⟨y, hy, hf⟩ := qa_lp_e hf
    refine t_X7_text_26 hC hQ hy ?_
    rcases hf with ⟨s', rfl, hf⟩ | rfl
    · exact ih s' hf
    · exact hK
set_option maxRecDepth 100000 in
set_option maxHeartbeats 4000000 in
theorem tl_X7_text_26 {X : qaX} {l : Launch} {Y : qaY} {fin : Int32 × qaM} (hC : QC X l Y cX7_text RX7 3 5) (hQ : QRi X Y (some .int) fin.2 fin.1) {m : qaM} {v1 : Int32} {v2 : Int32} {z : (Int32 × qaM)} (hf : lp_X7_text_26 m v1 v2 = some z) (hK : (qa_eq fin) z) : QG X Y 3 m 26 [(0, .ref (Y.2.2.1 36)), (1, .int v1), (2, .int v2)] [] :=
  tn_X7_text_26 hC hQ hK qa_F (m, v1, v2) hf
set_option maxRecDepth 100000 in
set_option maxHeartbeats 4000000 in
theorem c_X7_text (l : Launch) (Y : qaY) (m : qaM) (q : Int32 × qaM) (hf : f_X7_text m = some q) : qaMi l Y yX7_text cX7_text 3 (some .int) 5 [.ref (Y.2.2.1 36)] m q.2 q.1 := by
  refine qa_enti (by decide +kernel) (Nat.le_of_ble_eq_true rfl) fun X hC hQ => ?_
  have hK : qa_eq q q := rfl
  unfold f_X7_text at hf
  refine qi_aload_n hC 0 rfl rfl dX7_text_0 ?_
  refine qi_geti hC kf_X7_100 sh_36 rfl dX7_text_1 ?_
  refine qi_bipush hC dX7_text_4 kn_bipush_6 ?_
  refine qi_icmp_ne (tgt := 12) hC (by decide) dX7_text_6 (fun h => ?_) (fun h => ?_)
  · replace hf := qa_if_f h hf
    refine qi_aload_n hC 0 rfl rfl dX7_text_12 ?_
    refine qi_iconst hC dX7_text_13 kn_iconst_0 ?_
    obtain ⟨m1, em1, hf⟩ := qa_lt_e hf
    refine qi_puti hC em1 kp_X7_110 sh_36 rfl rfl rfl dX7_text_14 ?_
    refine qi_aload_n hC 0 rfl rfl dX7_text_17 ?_
    refine qi_iconst hC dX7_text_18 kn_iconst_0 ?_
    obtain ⟨m2, em2, hf⟩ := qa_lt_e hf
    refine qi_puti hC em2 kp_X7_126 sh_36 rfl rfl rfl dX7_text_19 ?_
    refine qi_iconst hC dX7_text_22 kn_iconst_1 ?_
    refine qi_istore_n hC rfl (by decide) rfl dX7_text_23 ?_
    refine qi_iconst hC dX7_text_24 kn_iconst_0 ?_
    refine qi_istore_n hC rfl (by decide) rfl dX7_text_25 ?_
    refine qi_sub hC [2, 1, 0] rfl ?_
    exact tl_X7_text_26 hC hQ hf hK
  · replace hf := qa_if_t h hf
    refine qi_bipush hC dX7_text_9 kn_bipush_m4 ?_
    obtain rfl := Option.some.inj hf
    exact qi_ireti hC hQ hK dX7_text_11
set_option maxRecDepth 100000 in
set_option maxHeartbeats 4000000 in
theorem c_X7_within (l : Launch) (Y : qaY) (m : qaM) (v0 : Int32) (v1 : Int32) (v2 : Int32) (q : Int32) (hf : f_X7_within m v0 v1 v2 = some q) : qaMi l Y yX7_within cX7_within 3 (some .int) 1 [.int v0, .int v1, .int v2] m m q := by
  refine qa_enti (by decide +kernel) (Nat.le_of_ble_eq_true rfl) fun X hC hQ => ?_
  have hK : qa_eq q q := rfl
  unfold f_X7_within at hf
  refine qi_iload_n hC 0 rfl rfl dX7_within_0 ?_
  refine qi_iload_n hC 1 rfl rfl dX7_within_1 ?_
  refine qi_icmp_ge (tgt := 9) hC (by decide) dX7_within_2 (fun h => ?_) (fun h => ?_)
  · replace hf := qa_if_t h hf
    refine qi_iload_n hC 0 rfl rfl dX7_within_9 ?_
    refine qi_iload_n hC 2 rfl rfl dX7_within_10 ?_
    refine qi_icmp_le (tgt := 18) hC (by decide) dX7_within_11 (fun h => ?_) (fun h => ?_)
    · replace hf := qa_if_t h hf
      refine qi_iload_n hC 0 rfl rfl dX7_within_18 ?_
      obtain rfl := Option.some.inj hf
      exact qi_ireti hC hQ (congrArg (fun w => (w, m)) hK) dX7_within_19
    · replace hf := qa_if_f h hf
      refine qi_iload_n hC 2 rfl rfl dX7_within_14 ?_
      refine qi_goto (tgt := 19) hC (by decide) dX7_within_15 ?_
      obtain rfl := Option.some.inj hf
      exact qi_ireti hC hQ (congrArg (fun w => (w, m)) hK) dX7_within_19
  · replace hf := qa_if_f h hf
    refine qi_iload_n hC 1 rfl rfl dX7_within_5 ?_
    refine qi_goto (tgt := 19) hC (by decide) dX7_within_6 ?_
    obtain rfl := Option.some.inj hf
    exact qi_ireti hC hQ (congrArg (fun w => (w, m)) hK) dX7_within_19
set_option maxRecDepth 100000 in
set_option maxHeartbeats 4000000 in
theorem c_X7_isLinen (l : Launch) (Y : qaY) (m : qaM) (v1 : Int32) (q : Int32) (hf : f_X7_isLinen m v1 = some q) : qaMi l Y yX7_isLinen cX7_isLinen 2 (some .boolean) 2 [.ref (Y.2.2.1 36), .int v1] m m q := by
  refine qa_enti (by decide +kernel) (Nat.le_of_ble_eq_true rfl) fun X hC hQ => ?_
  have hK : qa_eq q q := rfl
  unfold f_X7_isLinen at hf
  refine qi_iload_n hC 1 rfl rfl dX7_isLinen_0 ?_
  refine qi_iconst hC dX7_isLinen_1 kn_iconst_0 ?_
  refine qi_aload_n hC 0 rfl rfl dX7_isLinen_2 ?_
  refine qi_geti hC kf_X7_87 sh_36 rfl dX7_isLinen_3 ?_
  refine qi_iconst hC dX7_isLinen_6 kn_iconst_1 ?_
  refine qi_isub hC dX7_isLinen_7 ?_
  obtain ⟨q1, hq1, hf⟩ := Option.bind_eq_some_iff.mp hf
  refine qi_callSi hC (as := [.int v1, .int (0 : Int32), .int ((m 36 0) - (1 : Int32))]) (c_X7_in _ _ _ _ _ _ _ hq1) kl_X7_90 kc_X7_in rfl rfl (by decide) (by decide) (Nat.le_of_ble_eq_true rfl) dX7_isLinen_8 ?_
  obtain ⟨h2, hf⟩ := qa_ck_e hf
  obtain rfl := Option.some.inj hf
  exact qi_iretz hC hQ (congrArg (fun w => (w, m)) hK) (qa_bl_n h2) dX7_isLinen_11
set_option maxRecDepth 100000 in
set_option maxHeartbeats 4000000 in
theorem c_X7_areWeeks (l : Launch) (Y : qaY) (m : qaM) (v0 : Int32) (q : Int32) (hf : f_X7_areWeeks m v0 = some q) : qaMi l Y yX7_areWeeks cX7_areWeeks 1 (some .boolean) 2 [.int v0] m m q := by
  refine qa_enti (by decide +kernel) (Nat.le_of_ble_eq_true rfl) fun X hC hQ => ?_
  have hK : qa_eq q q := rfl
  unfold f_X7_areWeeks at hf
  refine qi_iload_n hC 0 rfl rfl dX7_areWeeks_0 ?_
  refine qi_iconst hC dX7_areWeeks_1 kn_iconst_0 ?_
  refine qi_sipush hC dX7_areWeeks_2 kn_sipush_200 ?_
  obtain ⟨q1, hq1, hf⟩ := Option.bind_eq_some_iff.mp hf
  refine qi_callSi hC (as := [.int v0, .int (0 : Int32), .int (200 : Int32)]) (c_X7_in _ _ _ _ _ _ _ hq1) kl_X7_90 kc_X7_in rfl rfl (by decide) (by decide) (Nat.le_of_ble_eq_true rfl) dX7_areWeeks_5 ?_
  obtain ⟨h2, hf⟩ := qa_ck_e hf
  obtain rfl := Option.some.inj hf
  exact qi_iretz hC hQ (congrArg (fun w => (w, m)) hK) (qa_bl_n h2) dX7_areWeeks_8
set_option maxRecDepth 100000 in
set_option maxHeartbeats 4000000 in
theorem t_X7_count_66 {X : qaX} {l : Launch} {Y : qaY} {fin : Int32} {m : qaM} (hC : QC X l Y cX7_count RX7 2 1) (hQ : QRi X Y (some .int) m fin) {v1 : Int32} {z : (Int32)} (hf : b_X7_count_66 m v1 = some z) (hK : (qa_eq fin) z) : QG X Y 2 m 66 [(0, .ref (Y.2.2.1 36)), (1, .int v1)] [] := by
  unfold b_X7_count_66 at hf
  refine qi_aload_n hC 0 rfl rfl dX7_count_66 ?_
  refine qi_getr hC kf_X7_22 sh_36 rfl dX7_count_67 ?_
  refine qi_iload_n hC 1 rfl rfl dX7_count_70 ?_
  refine qi_iconst hC dX7_count_71 kn_iconst_2 ?_
  refine qi_isub hC dX7_count_72 ?_
  obtain ⟨h4, hf⟩ := qa_ck_e hf
  refine qi_iald hC rfl sh_41 (qa_in_v h4) dX7_count_73 ?_
  obtain rfl := Option.some.inj hf
  exact qi_ireti hC hQ (congrArg (fun w => (w, m)) hK) dX7_count_74
set_option maxRecDepth 100000 in
set_option maxHeartbeats 4000000 in
theorem c_X7_count (l : Launch) (Y : qaY) (m : qaM) (v1 : Int32) (q : Int32) (hf : f_X7_count m v1 = some q) : qaMi l Y yX7_count cX7_count 2 (some .int) 1 [.ref (Y.2.2.1 36), .int v1] m m q := by
  refine qa_enti (by decide +kernel) (Nat.le_of_ble_eq_true rfl) fun X hC hQ => ?_
  have hK : qa_eq q q := rfl
  unfold f_X7_count at hf
  refine qi_iload_n hC 1 rfl rfl dX7_count_0 ?_
  by_cases h1 : v1 = (0 : Int32)
  · replace hf := qa_if_t h1 hf
    refine qi_tabIn (tgt := 56) (off := 55) hC dX7_count_1 (by rw [h1] <;> decide) (by rw [h1] <;> decide) (by rw [h1] <;> decide) (by decide) ?_
    refine qi_aload_n hC 0 rfl rfl dX7_count_56 ?_
    refine qi_geti hC kf_X7_87 sh_36 rfl dX7_count_57 ?_
    obtain rfl := Option.some.inj hf
    exact qi_ireti hC hQ (congrArg (fun w => (w, m)) hK) dX7_count_60
  replace hf := qa_if_f h1 hf
  by_cases h2 : v1 = (1 : Int32)
  · replace hf := qa_if_t h2 hf
    refine qi_tabIn (tgt := 61) (off := 60) hC dX7_count_1 (by rw [h2] <;> decide) (by rw [h2] <;> decide) (by rw [h2] <;> decide) (by decide) ?_
    refine qi_aload_n hC 0 rfl rfl dX7_count_61 ?_
    refine qi_geti hC kf_X7_94 sh_36 rfl dX7_count_62 ?_
    obtain rfl := Option.some.inj hf
    exact qi_ireti hC hQ (congrArg (fun w => (w, m)) hK) dX7_count_65
  replace hf := qa_if_f h2 hf
  by_cases h3 : v1 = (2 : Int32)
  · replace hf := qa_if_t h3 hf
    refine qi_tabIn (tgt := 66) (off := 65) hC dX7_count_1 (by rw [h3] <;> decide) (by rw [h3] <;> decide) (by rw [h3] <;> decide) (by decide) ?_
    exact t_X7_count_66 hC hQ hf hK
  replace hf := qa_if_f h3 hf
  by_cases h5 : v1 = (3 : Int32)
  · replace hf := qa_if_t h5 hf
    refine qi_tabIn (tgt := 66) (off := 65) hC dX7_count_1 (by rw [h5] <;> decide) (by rw [h5] <;> decide) (by rw [h5] <;> decide) (by decide) ?_
    exact t_X7_count_66 hC hQ hf hK
  replace hf := qa_if_f h5 hf
  by_cases h6 : v1 = (4 : Int32)
  · replace hf := qa_if_t h6 hf
    refine qi_tabIn (tgt := 66) (off := 65) hC dX7_count_1 (by rw [h6] <;> decide) (by rw [h6] <;> decide) (by rw [h6] <;> decide) (by decide) ?_
    exact t_X7_count_66 hC hQ hf hK
  replace hf := qa_if_f h6 hf
  by_cases h7 : v1 = (5 : Int32)
  · replace hf := qa_if_t h7 hf
    refine qi_tabIn (tgt := 66) (off := 65) hC dX7_count_1 (by rw [h7] <;> decide) (by rw [h7] <;> decide) (by rw [h7] <;> decide) (by decide) ?_
    exact t_X7_count_66 hC hQ hf hK
  replace hf := qa_if_f h7 hf
  by_cases h8 : v1 = (6 : Int32)
  · replace hf := qa_if_t h8 hf
    refine qi_tabIn (tgt := 75) (off := 74) hC dX7_count_1 (by rw [h8] <;> decide) (by rw [h8] <;> decide) (by rw [h8] <;> decide) (by decide) ?_
    refine qi_aload_n hC 0 rfl rfl dX7_count_75 ?_
    refine qi_geti hC kf_X7_97 sh_36 rfl dX7_count_76 ?_
    obtain rfl := Option.some.inj hf
    exact qi_ireti hC hQ (congrArg (fun w => (w, m)) hK) dX7_count_79
  replace hf := qa_if_f h8 hf
  by_cases h9 : v1 = (7 : Int32)
  · replace hf := qa_if_t h9 hf
    refine qi_tabIn (tgt := 80) (off := 79) hC dX7_count_1 (by rw [h9] <;> decide) (by rw [h9] <;> decide) (by rw [h9] <;> decide) (by decide) ?_
    refine qi_aload_n hC 0 rfl rfl dX7_count_80 ?_
    refine qi_geti hC kf_X7_100 sh_36 rfl dX7_count_81 ?_
    obtain rfl := Option.some.inj hf
    exact qi_ireti hC hQ (congrArg (fun w => (w, m)) hK) dX7_count_84
  replace hf := qa_if_f h9 hf
  by_cases h10 : v1 = (8 : Int32)
  · replace hf := qa_if_t h10 hf
    refine qi_tabIn (tgt := 85) (off := 84) hC dX7_count_1 (by rw [h10] <;> decide) (by rw [h10] <;> decide) (by rw [h10] <;> decide) (by decide) ?_
    refine qi_aload_n hC 0 rfl rfl dX7_count_85 ?_
    refine qi_geti hC kf_X7_103 sh_36 rfl dX7_count_86 ?_
    obtain rfl := Option.some.inj hf
    exact qi_ireti hC hQ (congrArg (fun w => (w, m)) hK) dX7_count_89
  replace hf := qa_if_f h10 hf
  by_cases h11 : v1 = (9 : Int32)
  · replace hf := qa_if_t h11 hf
    refine qi_tabIn (tgt := 90) (off := 89) hC dX7_count_1 (by rw [h11] <;> decide) (by rw [h11] <;> decide) (by rw [h11] <;> decide) (by decide) ?_
    refine qi_aload_n hC 0 rfl rfl dX7_count_90 ?_
    refine qi_geti hC kf_X7_79 sh_36 rfl dX7_count_91 ?_
    obtain rfl := Option.some.inj hf
    exact qi_ireti hC hQ (congrArg (fun w => (w, m)) hK) dX7_count_94
  replace hf := qa_if_f h11 hf
  refine qi_tabOut (tgt := 95) hC dX7_count_1 (by have nh1 := lv_neT (a := 0) h1 (by decide); have nh2 := lv_neT (a := 1) h2 (by decide); have nh3 := lv_neT (a := 2) h3 (by decide); have nh5 := lv_neT (a := 3) h5 (by decide); have nh6 := lv_neT (a := 4) h6 (by decide); have nh7 := lv_neT (a := 5) h7 (by decide); have nh8 := lv_neT (a := 6) h8 (by decide); have nh9 := lv_neT (a := 7) h9 (by decide); have nh10 := lv_neT (a := 8) h10 (by decide); have nh11 := lv_neT (a := 9) h11 (by decide); omega) (by decide) ?_
  refine qi_bipush hC dX7_count_95 kn_bipush_m2 ?_
  obtain rfl := Option.some.inj hf
  exact qi_ireti hC hQ (congrArg (fun w => (w, m)) hK) dX7_count_97
set_option maxRecDepth 100000 in
set_option maxHeartbeats 4000000 in
theorem t_X7_set_33 {X : qaX} {l : Launch} {Y : qaY} {fin : Int32 × qaM} (hC : QC X l Y cX7_set RX7 4 2) (hQ : QRi X Y (some .int) fin.2 fin.1) {m : qaM} {v1 : Int32} {v2 : Int32} {s0 : Int32} {s1 : Int32} {s2 : Int32} {z : (Int32 × qaM)} (hf : b_X7_set_33 m v1 v2 s0 s1 s2 = some z) (hK : (qa_eq fin) z) : QG X Y 4 m 33 [(0, .ref (Y.2.2.1 36)), (1, .int v1), (2, .int v2)] [.int s2, .int s1, .int s0] := by
  unfold b_X7_set_33 at hf
  obtain ⟨q2, hq2, hf⟩ := Option.bind_eq_some_iff.mp hf
  refine qi_callSi hC (as := [.int s0, .int s1, .int s2]) (c_X7_in _ _ _ _ _ _ _ hq2) kl_X7_90 kc_X7_in rfl rfl (by decide) (by decide) (Nat.le_of_ble_eq_true rfl) dX7_set_33 ?_
  refine qi_if_ne (tgt := 42) hC (by decide) dX7_set_36 (fun h => ?_) (fun h => ?_)
  · replace hf := qa_if_f h hf
    refine qi_aload_n hC 0 rfl rfl dX7_set_42 ?_
    refine qi_getr hC kf_X7_22 sh_36 rfl dX7_set_43 ?_
    refine qi_iload_n hC 1 rfl rfl dX7_set_46 ?_
    obtain ⟨h3, hf⟩ := qa_ck_e hf
    refine qi_iald hC rfl sh_41 (qa_in_v h3) dX7_set_47 ?_
    obtain ⟨x4, ex4, hf⟩ := qa_lt_e hf
    refine qi_nmi hC ex4 ?_
    refine qi_istore_n hC rfl (by decide) rfl dX7_set_48 ?_
    refine qi_aload_n hC 1 rfl rfl dX7_set_49 ?_
    refine qi_getr hC kf_X7_22 sh_36 rfl dX7_set_50 ?_
    refine qi_iload_n hC 2 rfl rfl dX7_set_53 ?_
    refine qi_iload_n hC 3 rfl rfl dX7_set_54 ?_
    obtain ⟨h5, hf⟩ := qa_ck_e hf
    obtain ⟨m6, em6, hf⟩ := qa_lt_e hf
    refine qi_iast hC rfl em6 sh_41 (qa_in_v h5) dX7_set_55 ?_
    refine qi_iload_n hC 0 rfl rfl dX7_set_56 ?_
    obtain rfl := Option.some.inj hf
    exact qi_ireti hC hQ hK dX7_set_57
  · replace hf := qa_if_t h hf
    refine qi_bipush hC dX7_set_39 kn_bipush_m7 ?_
    obtain rfl := Option.some.inj hf
    exact qi_ireti hC hQ hK dX7_set_41
set_option maxRecDepth 100000 in
set_option maxHeartbeats 4000000 in
theorem c_X7_set (l : Launch) (Y : qaY) (m : qaM) (v1 : Int32) (v2 : Int32) (q : Int32 × qaM) (hf : f_X7_set m v1 v2 = some q) : qaMi l Y yX7_set cX7_set 4 (some .int) 2 [.ref (Y.2.2.1 36), .int v1, .int v2] m q.2 q.1 := by
  refine qa_enti (by decide +kernel) (Nat.le_of_ble_eq_true rfl) fun X hC hQ => ?_
  have hK : qa_eq q q := rfl
  unfold f_X7_set at hf
  refine qi_iload_n hC 1 rfl rfl dX7_set_0 ?_
  refine qi_iconst hC dX7_set_1 kn_iconst_0 ?_
  refine qi_iconst hC dX7_set_2 kn_iconst_3 ?_
  obtain ⟨q1, hq1, hf⟩ := Option.bind_eq_some_iff.mp hf
  refine qi_callSi hC (as := [.int v1, .int (0 : Int32), .int (3 : Int32)]) (c_X7_in _ _ _ _ _ _ _ hq1) kl_X7_90 kc_X7_in rfl rfl (by decide) (by decide) (Nat.le_of_ble_eq_true rfl) dX7_set_3 ?_
  refine qi_if_ne (tgt := 12) hC (by decide) dX7_set_6 (fun h => ?_) (fun h => ?_)
  · replace hf := qa_if_f h hf
    refine qi_iload_n hC 2 rfl rfl dX7_set_12 ?_
    refine qi_iconst hC dX7_set_13 kn_iconst_0 ?_
    refine qi_iload_n hC 1 rfl rfl dX7_set_14 ?_
    refine qi_if_ne (tgt := 23) hC (by decide) dX7_set_15 (fun h => ?_) (fun h => ?_)
    · replace hf := qa_if_f h hf
      refine qi_iload_n hC 1 rfl rfl dX7_set_23 ?_
      refine qi_iconst hC dX7_set_24 kn_iconst_3 ?_
      refine qi_icmp_ne (tgt := 32) hC (by decide) dX7_set_25 (fun h => ?_) (fun h => ?_)
      · replace hf := qa_if_f h hf
        refine qi_iconst hC dX7_set_32 kn_iconst_3 ?_
        exact t_X7_set_33 hC hQ hf hK
      · replace hf := qa_if_t h hf
        refine qi_iconst hC dX7_set_28 kn_iconst_2 ?_
        refine qi_goto (tgt := 33) hC (by decide) dX7_set_29 ?_
        exact t_X7_set_33 hC hQ hf hK
    · replace hf := qa_if_t h hf
      refine qi_bipush hC dX7_set_18 kn_bipush_8 ?_
      refine qi_goto (tgt := 33) hC (by decide) dX7_set_20 ?_
      exact t_X7_set_33 hC hQ hf hK
  · replace hf := qa_if_t h hf
    refine qi_bipush hC dX7_set_9 kn_bipush_m5 ?_
    obtain rfl := Option.some.inj hf
    exact qi_ireti hC hQ hK dX7_set_11
set_option maxRecDepth 100000 in
set_option maxHeartbeats 4000000 in
theorem c_X7_isByte (l : Launch) (Y : qaY) (m : qaM) (v0 : Int32) (q : Int32) (hf : f_X7_isByte m v0 = some q) : qaMi l Y yX7_isByte cX7_isByte 1 (some .boolean) 2 [.int v0] m m q := by
  refine qa_enti (by decide +kernel) (Nat.le_of_ble_eq_true rfl) fun X hC hQ => ?_
  have hK : qa_eq q q := rfl
  unfold f_X7_isByte at hf
  refine qi_iload_n hC 0 rfl rfl dX7_isByte_0 ?_
  refine qi_iconst hC dX7_isByte_1 kn_iconst_0 ?_
  refine qi_sipush hC dX7_isByte_2 kn_sipush_255 ?_
  obtain ⟨q1, hq1, hf⟩ := Option.bind_eq_some_iff.mp hf
  refine qi_callSi hC (as := [.int v0, .int (0 : Int32), .int (255 : Int32)]) (c_X7_in _ _ _ _ _ _ _ hq1) kl_X7_90 kc_X7_in rfl rfl (by decide) (by decide) (Nat.le_of_ble_eq_true rfl) dX7_isByte_5 ?_
  obtain ⟨h2, hf⟩ := qa_ck_e hf
  obtain rfl := Option.some.inj hf
  exact qi_iretz hC hQ (congrArg (fun w => (w, m)) hK) (qa_bl_n h2) dX7_isByte_8
set_option maxRecDepth 100000 in
set_option maxHeartbeats 4000000 in
theorem t_X7_feed_125 {X : qaX} {l : Launch} {Y : qaY} {fin : Int32 × qaM} (hC : QC X l Y cX7_feed RX7 8 3) (hQ : QRi X Y (some .int) fin.2 fin.1) {m : qaM} {v1 : Int32} {v2 : Int32} {v3 : Int32} {v4 : Int32} {v5 : Int32} {v6 : Int32} {v7 : Int32} {s1 : Int32} {s2 : Int32} {z : ((qaM × Int32) ⊕ (Int32 × qaM))} (hf : b_X7_feed_125 m v1 v2 v3 v4 v5 v6 v7 s1 s2 = some z) (hK : (qa_K (fun s => QG X Y 8 s.1 68 [(0, .ref (Y.2.2.1 36)), (1, .int v1), (2, .int v2), (3, .int v3), (4, .int v4), (5, .int v5), (6, .int v6), (7, .int s.2)] []) (qa_eq fin)) z) : QG X Y 8 m 125 [(0, .ref (Y.2.2.1 36)), (1, .int v1), (2, .int v2), (3, .int v3), (4, .int v4), (5, .int v5), (6, .int v6), (7, .int v7)] [.int s2, .int s1, .ref (Y.2.2.1 42)] := by
  unfold b_X7_feed_125 at hf
  obtain ⟨h7, hf⟩ := qa_ck_e hf
  obtain ⟨m8, em8, hf⟩ := qa_lt_e hf
  refine qi_iast hC rfl em8 sh_42 (qa_in_v h7) dX7_feed_125 ?_
  refine qi_aload_n hC 0 rfl rfl dX7_feed_126 ?_
  refine qi_dup hC rfl dX7_feed_127 ?_
  refine qi_geti hC kf_X7_79 sh_36 rfl dX7_feed_128 ?_
  refine qi_iconst hC dX7_feed_131 kn_iconst_1 ?_
  refine qi_iadd hC dX7_feed_132 ?_
  obtain ⟨m9, em9, hf⟩ := qa_lt_e hf
  refine qi_puti hC em9 kp_X7_79 sh_36 rfl rfl rfl dX7_feed_133 ?_
  obtain ⟨x10, ex10, hf⟩ := qa_lt_e hf
  refine qi_iinc hC (n := 1) (v := x10) 7 rfl ((congrArg (fun q => v7 + q) kn_iconst_1).trans ex10.symm) (by decide) rfl dX7_feed_136 ?_
  refine qi_goto (tgt := 68) hC (by decide) dX7_feed_139 ?_
  obtain rfl := Option.some.inj hf
  refine qi_sub hC [1, 2, 3, 4, 5, 6, 7, 0] rfl ?_
  exact hK
set_option maxRecDepth 100000 in
set_option maxHeartbeats 4000000 in
theorem t_X7_feed_68 {X : qaX} {l : Launch} {Y : qaY} {fin : Int32 × qaM} (hC : QC X l Y cX7_feed RX7 8 3) (hQ : QRi X Y (some .int) fin.2 fin.1) {m : qaM} {v1 : Int32} {v2 : Int32} {v3 : Int32} {v4 : Int32} {v5 : Int32} {v6 : Int32} {v7 : Int32} {z : ((qaM × Int32) ⊕ (Int32 × qaM))} (hf : b_X7_feed_68 m v1 v2 v3 v4 v5 v6 v7 = some z) (hK : (qa_K (fun s => QG X Y 8 s.1 68 [(0, .ref (Y.2.2.1 36)), (1, .int v1), (2, .int v2), (3, .int v3), (4, .int v4), (5, .int v5), (6, .int v6), (7, .int s.2)] []) (qa_eq fin)) z) : QG X Y 8 m 68 [(0, .ref (Y.2.2.1 36)), (1, .int v1), (2, .int v2), (3, .int v3), (4, .int v4), (5, .int v5), (6, .int v6), (7, .int v7)] [] := by
  unfold b_X7_feed_68 at hf
  refine qi_iload hC 7 rfl dX7_feed_68 ?_
  refine qi_iload_n hC 1 rfl rfl dX7_feed_70 ?_
  refine qi_icmp_ge (tgt := 142) hC (by decide) dX7_feed_71 (fun h => ?_) (fun h => ?_)
  · replace hf := qa_if_t h hf
    refine qi_aload_n hC 0 rfl rfl dX7_feed_142 ?_
    refine qi_geti hC kf_X7_79 sh_36 rfl dX7_feed_143 ?_
    obtain ⟨z, rfl, hg⟩ := qa_inr_e hf; have hf := hg
    obtain rfl := Option.some.inj hf
    exact qi_ireti hC hQ hK dX7_feed_146
  · replace hf := qa_if_f h hf
    refine qi_aload_n hC 0 rfl rfl dX7_feed_74 ?_
    refine qi_getr hC kf_X7_25 sh_36 rfl dX7_feed_75 ?_
    refine qi_aload_n hC 0 rfl rfl dX7_feed_78 ?_
    refine qi_geti hC kf_X7_79 sh_36 rfl dX7_feed_79 ?_
    refine qi_iload hC 7 rfl dX7_feed_82 ?_
    refine qi_if_ne (tgt := 91) hC (by decide) dX7_feed_84 (fun h => ?_) (fun h => ?_)
    · replace hf := qa_if_f h hf
      refine qi_iload hC 7 rfl dX7_feed_91 ?_
      refine qi_iconst hC dX7_feed_93 kn_iconst_1 ?_
      refine qi_icmp_ne (tgt := 101) hC (by decide) dX7_feed_94 (fun h => ?_) (fun h => ?_)
      · replace hf := qa_if_f h hf
        refine qi_iload hC 7 rfl dX7_feed_101 ?_
        refine qi_iconst hC dX7_feed_103 kn_iconst_2 ?_
        refine qi_icmp_ne (tgt := 112) hC (by decide) dX7_feed_104 (fun h => ?_) (fun h => ?_)
        · replace hf := qa_if_f h hf
          refine qi_iload hC 7 rfl dX7_feed_112 ?_
          refine qi_iconst hC dX7_feed_114 kn_iconst_3 ?_
          refine qi_icmp_ne (tgt := 123) hC (by decide) dX7_feed_115 (fun h => ?_) (fun h => ?_)
          · replace hf := qa_if_f h hf
            refine qi_iload hC 6 rfl dX7_feed_123 ?_
            exact t_X7_feed_125 hC hQ hf hK
          · replace hf := qa_if_t h hf
            refine qi_iload hC 5 rfl dX7_feed_118 ?_
            refine qi_goto (tgt := 125) hC (by decide) dX7_feed_120 ?_
            exact t_X7_feed_125 hC hQ hf hK
        · replace hf := qa_if_t h hf
          refine qi_iload hC 4 rfl dX7_feed_107 ?_
          refine qi_goto (tgt := 125) hC (by decide) dX7_feed_109 ?_
          exact t_X7_feed_125 hC hQ hf hK
      · replace hf := qa_if_t h hf
        refine qi_iload_n hC 3 rfl rfl dX7_feed_97 ?_
        refine qi_goto (tgt := 125) hC (by decide) dX7_feed_98 ?_
        exact t_X7_feed_125 hC hQ hf hK
    · replace hf := qa_if_t h hf
      refine qi_iload_n hC 2 rfl rfl dX7_feed_87 ?_
      refine qi_goto (tgt := 125) hC (by decide) dX7_feed_88 ?_
      exact t_X7_feed_125 hC hQ hf hK
set_option maxRecDepth 100000 in
set_option maxHeartbeats 4000000 in
theorem tn_X7_feed_68 {X : qaX} {l : Launch} {Y : qaY} {fin : Int32 × qaM} (hC : QC X l Y cX7_feed RX7 8 3) (hQ : QRi X Y (some .int) fin.2 fin.1) {v1 : Int32} {v2 : Int32} {v3 : Int32} {v4 : Int32} {v5 : Int32} {v6 : Int32} {z : (Int32 × qaM)} (hK : (qa_eq fin) z) : ∀ (n : Nat) (s : qaM × Int32), qa_lp (fun s => b_X7_feed_68 s.1 v1 v2 v3 v4 v5 v6 s.2) n s = some z → QG X Y 8 s.1 68 [(0, .ref (Y.2.2.1 36)), (1, .int v1), (2, .int v2), (3, .int v3), (4, .int v4), (5, .int v5), (6, .int v6), (7, .int s.2)] [] := by
  intro n
  induction n with
  | zero => intro s hf; cases hf
  | succ n ih =>
    intro s hf
    obtain ⟨y, hy, hf⟩ := qa_lp_e hf
    refine t_X7_feed_68 hC hQ hy ?_
    rcases hf with ⟨s', rfl, hf⟩ | rfl
    · exact ih s' hf
    · exact hK
set_option maxRecDepth 100000 in
set_option maxHeartbeats 4000000 in
theorem tl_X7_feed_68 {X : qaX} {l : Launch} {Y : qaY} {fin : Int32 × qaM} (hC : QC X l Y cX7_feed RX7 8 3) (hQ : QRi X Y (some .int) fin.2 fin.1) {m : qaM} {v1 : Int32} {v2 : Int32} {v3 : Int32} {v4 : Int32} {v5 : Int32} {v6 : Int32} {v7 : Int32} {z : (Int32 × qaM)} (hf : lp_X7_feed_68 m v1 v2 v3 v4 v5 v6 v7 = some z) (hK : (qa_eq fin) z) : QG X Y 8 m 68 [(0, .ref (Y.2.2.1 36)), (1, .int v1), (2, .int v2), (3, .int v3), (4, .int v4), (5, .int v5), (6, .int v6), (7, .int v7)] [] :=
  tn_X7_feed_68 hC hQ hK qa_F (m, v7) hf
set_option maxRecDepth 100000 in
set_option maxHeartbeats 4000000 in
theorem c_X7_feed (l : Launch) (Y : qaY) (m : qaM) (v1 : Int32) (v2 : Int32) (v3 : Int32) (v4 : Int32) (v5 : Int32) (v6 : Int32) (q : Int32 × qaM) (hf : f_X7_feed m v1 v2 v3 v4 v5 v6 = some q) : qaMi l Y yX7_feed cX7_feed 8 (some .int) 3 [.ref (Y.2.2.1 36), .int v1, .int v2, .int v3, .int v4, .int v5, .int v6] m q.2 q.1 := by
  refine qa_enti (by decide +kernel) (Nat.le_of_ble_eq_true rfl) fun X hC hQ => ?_
  have hK : qa_eq q q := rfl
  unfold f_X7_feed at hf
  refine qi_iload_n hC 1 rfl rfl dX7_feed_0 ?_
  refine qi_iconst hC dX7_feed_1 kn_iconst_1 ?_
  refine qi_iconst hC dX7_feed_2 kn_iconst_5 ?_
  obtain ⟨q1, hq1, hf⟩ := Option.bind_eq_some_iff.mp hf
  refine qi_callSi hC (as := [.int v1, .int (1 : Int32), .int (5 : Int32)]) (c_X7_in _ _ _ _ _ _ _ hq1) kl_X7_90 kc_X7_in rfl rfl (by decide) (by decide) (Nat.le_of_ble_eq_true rfl) dX7_feed_3 ?_
  refine qi_if_eq (tgt := 47) hC (by decide) dX7_feed_6 (fun h => ?_) (fun h => ?_)
  · replace hf := qa_if_t h hf
    refine qi_bipush hC dX7_feed_47 kn_bipush_m2 ?_
    obtain rfl := Option.some.inj hf
    exact qi_ireti hC hQ hK dX7_feed_49
  · replace hf := qa_if_f h hf
    refine qi_iload_n hC 2 rfl rfl dX7_feed_9 ?_
    obtain ⟨q2, hq2, hf⟩ := Option.bind_eq_some_iff.mp hf
    refine qi_callSi hC (as := [.int v2]) (c_X7_isByte _ _ _ _ _ hq2) kl_X7_106 kc_X7_isByte rfl rfl (by decide) (by decide) (Nat.le_of_ble_eq_true rfl) dX7_feed_10 ?_
    refine qi_if_eq (tgt := 47) hC (by decide) dX7_feed_13 (fun h => ?_) (fun h => ?_)
    · replace hf := qa_if_t h hf
      refine qi_bipush hC dX7_feed_47 kn_bipush_m2 ?_
      obtain rfl := Option.some.inj hf
      exact qi_ireti hC hQ hK dX7_feed_49
    · replace hf := qa_if_f h hf
      refine qi_iload_n hC 3 rfl rfl dX7_feed_16 ?_
      obtain ⟨q3, hq3, hf⟩ := Option.bind_eq_some_iff.mp hf
      refine qi_callSi hC (as := [.int v3]) (c_X7_isByte _ _ _ _ _ hq3) kl_X7_106 kc_X7_isByte rfl rfl (by decide) (by decide) (Nat.le_of_ble_eq_true rfl) dX7_feed_17 ?_
      refine qi_if_eq (tgt := 47) hC (by decide) dX7_feed_20 (fun h => ?_) (fun h => ?_)
      · replace hf := qa_if_t h hf
        refine qi_bipush hC dX7_feed_47 kn_bipush_m2 ?_
        obtain rfl := Option.some.inj hf
        exact qi_ireti hC hQ hK dX7_feed_49
      · replace hf := qa_if_f h hf
        refine qi_iload hC 4 rfl dX7_feed_23 ?_
        obtain ⟨q4, hq4, hf⟩ := Option.bind_eq_some_iff.mp hf
        refine qi_callSi hC (as := [.int v4]) (c_X7_isByte _ _ _ _ _ hq4) kl_X7_106 kc_X7_isByte rfl rfl (by decide) (by decide) (Nat.le_of_ble_eq_true rfl) dX7_feed_25 ?_
        refine qi_if_eq (tgt := 47) hC (by decide) dX7_feed_28 (fun h => ?_) (fun h => ?_)
        · replace hf := qa_if_t h hf
          refine qi_bipush hC dX7_feed_47 kn_bipush_m2 ?_
          obtain rfl := Option.some.inj hf
          exact qi_ireti hC hQ hK dX7_feed_49
        · replace hf := qa_if_f h hf
          refine qi_iload hC 5 rfl dX7_feed_31 ?_
          obtain ⟨q5, hq5, hf⟩ := Option.bind_eq_some_iff.mp hf
          refine qi_callSi hC (as := [.int v5]) (c_X7_isByte _ _ _ _ _ hq5) kl_X7_106 kc_X7_isByte rfl rfl (by decide) (by decide) (Nat.le_of_ble_eq_true rfl) dX7_feed_33 ?_
          refine qi_if_eq (tgt := 47) hC (by decide) dX7_feed_36 (fun h => ?_) (fun h => ?_)
          · replace hf := qa_if_t h hf
            refine qi_bipush hC dX7_feed_47 kn_bipush_m2 ?_
            obtain rfl := Option.some.inj hf
            exact qi_ireti hC hQ hK dX7_feed_49
          · replace hf := qa_if_f h hf
            refine qi_iload hC 6 rfl dX7_feed_39 ?_
            obtain ⟨q6, hq6, hf⟩ := Option.bind_eq_some_iff.mp hf
            refine qi_callSi hC (as := [.int v6]) (c_X7_isByte _ _ _ _ _ hq6) kl_X7_106 kc_X7_isByte rfl rfl (by decide) (by decide) (Nat.le_of_ble_eq_true rfl) dX7_feed_41 ?_
            refine qi_if_ne (tgt := 50) hC (by decide) dX7_feed_44 (fun h => ?_) (fun h => ?_)
            · replace hf := qa_if_f h hf
              refine qi_aload_n hC 0 rfl rfl dX7_feed_50 ?_
              refine qi_geti hC kf_X7_79 sh_36 rfl dX7_feed_51 ?_
              refine qi_iload_n hC 1 rfl rfl dX7_feed_54 ?_
              refine qi_iadd hC dX7_feed_55 ?_
              refine qi_sipush hC dX7_feed_56 kn_sipush_160 ?_
              refine qi_icmp_le (tgt := 65) hC (by decide) dX7_feed_59 (fun h => ?_) (fun h => ?_)
              · replace hf := qa_if_t h hf
                refine qi_iconst hC dX7_feed_65 kn_iconst_0 ?_
                refine qi_istore hC (by decide) rfl dX7_feed_66 ?_
                refine qi_sub hC [1, 2, 3, 4, 5, 6, 7, 0] rfl ?_
                exact tl_X7_feed_68 hC hQ hf hK
              · replace hf := qa_if_f h hf
                refine qi_bipush hC dX7_feed_62 kn_bipush_m4 ?_
                obtain rfl := Option.some.inj hf
                exact qi_ireti hC hQ hK dX7_feed_64
            · replace hf := qa_if_t h hf
              refine qi_bipush hC dX7_feed_47 kn_bipush_m2 ?_
              obtain rfl := Option.some.inj hf
              exact qi_ireti hC hQ hK dX7_feed_49
set_option maxRecDepth 100000 in
set_option maxHeartbeats 4000000 in
theorem t_X7_two_52 {X : qaX} {l : Launch} {Y : qaY} {fin : Int32} {m : qaM} (hC : QC X l Y cX7_two RX7 3 1) (hQ : QRi X Y (some .int) m fin) {z : (Int32)} (hf : b_X7_two_52 m = some z) (hK : (qa_eq fin) z) : QG X Y 3 m 52 [] [] := by
  unfold b_X7_two_52 at hf
  refine qi_iconst hC dX7_two_52 kn_iconst_1 ?_
  refine qi_goto (tgt := 57) hC (by decide) dX7_two_53 ?_
  obtain rfl := Option.some.inj hf
  exact qi_ireti hC hQ (congrArg (fun w => (w, m)) hK) dX7_two_57
set_option maxRecDepth 100000 in
set_option maxHeartbeats 4000000 in
theorem t_X7_two_102 {X : qaX} {l : Launch} {Y : qaY} {fin : Int32} {m : qaM} (hC : QC X l Y cX7_two RX7 3 1) (hQ : QRi X Y (some .int) m fin) {v1 : Int32} {v2 : Int32} {z : (Int32)} (hf : b_X7_two_102 m v1 v2 = some z) (hK : (qa_eq fin) z) : QG X Y 3 m 102 [(1, .int v1), (2, .int v2)] [] := by
  unfold b_X7_two_102 at hf
  refine qi_iload_n hC 0 rfl rfl dX7_two_102 ?_
  refine qi_iload_n hC 1 rfl rfl dX7_two_103 ?_
  refine qi_imul hC dX7_two_104 ?_
  obtain rfl := Option.some.inj hf
  exact qi_ireti hC hQ (congrArg (fun w => (w, m)) hK) dX7_two_105
set_option maxRecDepth 100000 in
set_option maxHeartbeats 4000000 in
theorem c_X7_two (l : Launch) (Y : qaY) (m : qaM) (v0 : Int32) (v1 : Int32) (v2 : Int32) (q : Int32) (hf : f_X7_two m v0 v1 v2 = some q) : qaMi l Y yX7_two cX7_two 3 (some .int) 1 [.int v0, .int v1, .int v2] m m q := by
  refine qa_enti (by decide +kernel) (Nat.le_of_ble_eq_true rfl) fun X hC hQ => ?_
  have hK : qa_eq q q := rfl
  unfold f_X7_two at hf
  refine qi_iload_n hC 0 rfl rfl dX7_two_0 ?_
  by_cases h1 : v0 = (11 : Int32)
  · replace hf := qa_if_t h1 hf
    refine qi_tabIn (tgt := 44) (off := 43) hC dX7_two_1 (by rw [h1] <;> decide) (by rw [h1] <;> decide) (by rw [h1] <;> decide) (by decide) ?_
    refine qi_iload_n hC 1 rfl rfl dX7_two_44 ?_
    refine qi_if_ne (tgt := 52) hC (by decide) dX7_two_45 (fun h => ?_) (fun h => ?_)
    · replace hf := qa_if_f h hf
      refine qi_sub hC [] rfl ?_
      exact t_X7_two_52 hC hQ hf hK
    · replace hf := qa_if_t h hf
      refine qi_iload_n hC 2 rfl rfl dX7_two_48 ?_
      refine qi_if_eq (tgt := 56) hC (by decide) dX7_two_49 (fun h => ?_) (fun h => ?_)
      · replace hf := qa_if_t h hf
        refine qi_iconst hC dX7_two_56 kn_iconst_0 ?_
        obtain rfl := Option.some.inj hf
        exact qi_ireti hC hQ (congrArg (fun w => (w, m)) hK) dX7_two_57
      · replace hf := qa_if_f h hf
        refine qi_sub hC [] rfl ?_
        exact t_X7_two_52 hC hQ hf hK
  replace hf := qa_if_f h1 hf
  by_cases h2 : v0 = (12 : Int32)
  · replace hf := qa_if_t h2 hf
    refine qi_tabIn (tgt := 58) (off := 57) hC dX7_two_1 (by rw [h2] <;> decide) (by rw [h2] <;> decide) (by rw [h2] <;> decide) (by decide) ?_
    refine qi_iload_n hC 1 rfl rfl dX7_two_58 ?_
    refine qi_if_eq (tgt := 70) hC (by decide) dX7_two_59 (fun h => ?_) (fun h => ?_)
    · replace hf := qa_if_t h hf
      refine qi_iconst hC dX7_two_70 kn_iconst_0 ?_
      obtain rfl := Option.some.inj hf
      exact qi_ireti hC hQ (congrArg (fun w => (w, m)) hK) dX7_two_71
    · replace hf := qa_if_f h hf
      refine qi_iload_n hC 2 rfl rfl dX7_two_62 ?_
      refine qi_if_eq (tgt := 70) hC (by decide) dX7_two_63 (fun h => ?_) (fun h => ?_)
      · replace hf := qa_if_t h hf
        refine qi_iconst hC dX7_two_70 kn_iconst_0 ?_
        obtain rfl := Option.some.inj hf
        exact qi_ireti hC hQ (congrArg (fun w => (w, m)) hK) dX7_two_71
      · replace hf := qa_if_f h hf
        refine qi_iconst hC dX7_two_66 kn_iconst_1 ?_
        refine qi_goto (tgt := 71) hC (by decide) dX7_two_67 ?_
        obtain rfl := Option.some.inj hf
        exact qi_ireti hC hQ (congrArg (fun w => (w, m)) hK) dX7_two_71
  replace hf := qa_if_f h2 hf
  by_cases h3 : v0 = (13 : Int32)
  · replace hf := qa_if_t h3 hf
    refine qi_tabIn (tgt := 102) (off := 101) hC dX7_two_1 (by rw [h3] <;> decide) (by rw [h3] <;> decide) (by rw [h3] <;> decide) (by decide) ?_
    refine qi_sub hC [1, 2] rfl ?_
    exact t_X7_two_102 hC hQ hf hK
  replace hf := qa_if_f h3 hf
  by_cases h4 : v0 = (14 : Int32)
  · replace hf := qa_if_t h4 hf
    refine qi_tabIn (tgt := 72) (off := 71) hC dX7_two_1 (by rw [h4] <;> decide) (by rw [h4] <;> decide) (by rw [h4] <;> decide) (by decide) ?_
    refine qi_iload_n hC 1 rfl rfl dX7_two_72 ?_
    refine qi_iload_n hC 2 rfl rfl dX7_two_73 ?_
    refine qi_icmp_ge (tgt := 81) hC (by decide) dX7_two_74 (fun h => ?_) (fun h => ?_)
    · replace hf := qa_if_t h hf
      refine qi_iconst hC dX7_two_81 kn_iconst_0 ?_
      obtain rfl := Option.some.inj hf
      exact qi_ireti hC hQ (congrArg (fun w => (w, m)) hK) dX7_two_82
    · replace hf := qa_if_f h hf
      refine qi_iconst hC dX7_two_77 kn_iconst_1 ?_
      refine qi_goto (tgt := 82) hC (by decide) dX7_two_78 ?_
      obtain rfl := Option.some.inj hf
      exact qi_ireti hC hQ (congrArg (fun w => (w, m)) hK) dX7_two_82
  replace hf := qa_if_f h4 hf
  by_cases h5 : v0 = (15 : Int32)
  · replace hf := qa_if_t h5 hf
    refine qi_tabIn (tgt := 83) (off := 82) hC dX7_two_1 (by rw [h5] <;> decide) (by rw [h5] <;> decide) (by rw [h5] <;> decide) (by decide) ?_
    refine qi_iload_n hC 1 rfl rfl dX7_two_83 ?_
    refine qi_iload_n hC 2 rfl rfl dX7_two_84 ?_
    refine qi_icmp_ne (tgt := 92) hC (by decide) dX7_two_85 (fun h => ?_) (fun h => ?_)
    · replace hf := qa_if_f h hf
      refine qi_iconst hC dX7_two_92 kn_iconst_0 ?_
      obtain rfl := Option.some.inj hf
      exact qi_ireti hC hQ (congrArg (fun w => (w, m)) hK) dX7_two_93
    · replace hf := qa_if_t h hf
      refine qi_iconst hC dX7_two_88 kn_iconst_1 ?_
      refine qi_goto (tgt := 93) hC (by decide) dX7_two_89 ?_
      obtain rfl := Option.some.inj hf
      exact qi_ireti hC hQ (congrArg (fun w => (w, m)) hK) dX7_two_93
  replace hf := qa_if_f h5 hf
  by_cases h6 : v0 = (16 : Int32)
  · replace hf := qa_if_t h6 hf
    refine qi_tabIn (tgt := 94) (off := 93) hC dX7_two_1 (by rw [h6] <;> decide) (by rw [h6] <;> decide) (by rw [h6] <;> decide) (by decide) ?_
    refine qi_iload_n hC 1 rfl rfl dX7_two_94 ?_
    refine qi_iload_n hC 2 rfl rfl dX7_two_95 ?_
    refine qi_iadd hC dX7_two_96 ?_
    obtain rfl := Option.some.inj hf
    exact qi_ireti hC hQ (congrArg (fun w => (w, m)) hK) dX7_two_97
  replace hf := qa_if_f h6 hf
  by_cases h7 : v0 = (17 : Int32)
  · replace hf := qa_if_t h7 hf
    refine qi_tabIn (tgt := 98) (off := 97) hC dX7_two_1 (by rw [h7] <;> decide) (by rw [h7] <;> decide) (by rw [h7] <;> decide) (by decide) ?_
    refine qi_iload_n hC 1 rfl rfl dX7_two_98 ?_
    refine qi_iload_n hC 2 rfl rfl dX7_two_99 ?_
    refine qi_isub hC dX7_two_100 ?_
    obtain rfl := Option.some.inj hf
    exact qi_ireti hC hQ (congrArg (fun w => (w, m)) hK) dX7_two_101
  replace hf := qa_if_f h7 hf
  refine qi_tabOut (tgt := 102) hC dX7_two_1 (by have nh1 := lv_neT (a := 11) h1 (by decide); have nh2 := lv_neT (a := 12) h2 (by decide); have nh3 := lv_neT (a := 13) h3 (by decide); have nh4 := lv_neT (a := 14) h4 (by decide); have nh5 := lv_neT (a := 15) h5 (by decide); have nh6 := lv_neT (a := 16) h6 (by decide); have nh7 := lv_neT (a := 17) h7 (by decide); omega) (by decide) ?_
  refine qi_sub hC [1, 2] rfl ?_
  exact t_X7_two_102 hC hQ hf hK
set_option maxRecDepth 100000 in
set_option maxHeartbeats 4000000 in
theorem t_X7_says_197 {X : qaX} {l : Launch} {Y : qaY} {fin : Int32 × qaM} (hC : QC X l Y cX7_says RX7 5 2) (hQ : QRi X Y (some .int) fin.2 fin.1) {m : qaM} {z : (Int32 × qaM)} (hf : b_X7_says_197 m = some z) (hK : (qa_eq fin) z) : QG X Y 5 m 197 [(0, .ref (Y.2.2.1 36))] [] := by
  unfold b_X7_says_197 at hf
  refine qi_aload_n hC 0 rfl rfl dX7_says_197 ?_
  refine qi_getr hC kf_X7_61 sh_36 rfl dX7_says_198 ?_
  refine qi_iconst hC dX7_says_201 kn_iconst_0 ?_
  refine qi_iald hC tn_0 sh_54 vi_0_200 dX7_says_202 ?_
  obtain rfl := Option.some.inj hf
  exact qi_ireti hC hQ hK dX7_says_203
set_option maxRecDepth 100000 in
set_option maxHeartbeats 4000000 in
theorem t_X7_says_191 {X : qaX} {l : Launch} {Y : qaY} {fin : Int32 × qaM} (hC : QC X l Y cX7_says RX7 5 2) (hQ : QRi X Y (some .int) fin.2 fin.1) {m : qaM} {v1 : Int32} {v2 : Int32} {v3 : Int32} {z : ((qaM × Int32 × Int32) ⊕ (Int32 × qaM))} (hf : b_X7_says_191 m v1 v2 v3 = some z) (hK : (qa_K (fun s => QG X Y 5 s.1 16 [(0, .ref (Y.2.2.1 36)), (1, .int v1), (2, .int s.2.1), (3, .int s.2.2)] []) (qa_eq fin)) z) : QG X Y 5 m 191 [(0, .ref (Y.2.2.1 36)), (1, .int v1), (2, .int v2), (3, .int v3)] [] := by
  unfold b_X7_says_191 at hf
  obtain ⟨x9, ex9, hf⟩ := qa_lt_e hf
  refine qi_iinc hC (n := 1) (v := x9) 3 rfl ((congrArg (fun q => v3 + q) kn_iconst_1).trans ex9.symm) (by decide) rfl dX7_says_191 ?_
  refine qi_goto (tgt := 16) hC (by decide) dX7_says_194 ?_
  obtain rfl := Option.some.inj hf
  refine qi_sub hC [1, 2, 3, 0] rfl ?_
  exact hK
set_option maxRecDepth 100000 in
set_option maxHeartbeats 4000000 in
theorem t_X7_says_93 {X : qaX} {l : Launch} {Y : qaY} {fin : Int32 × qaM} (hC : QC X l Y cX7_says RX7 5 2) (hQ : QRi X Y (some .int) fin.2 fin.1) {m : qaM} {v1 : Int32} {v2 : Int32} {v3 : Int32} {s1 : Int32} {s2 : Int32} {z : ((qaM × Int32 × Int32) ⊕ (Int32 × qaM))} (hf : b_X7_says_93 m v1 v2 v3 s1 s2 = some z) (hK : (qa_K (fun s => QG X Y 5 s.1 16 [(0, .ref (Y.2.2.1 36)), (1, .int v1), (2, .int s.2.1), (3, .int s.2.2)] []) (qa_eq fin)) z) : QG X Y 5 m 93 [(0, .ref (Y.2.2.1 36)), (1, .int v1), (2, .int v2), (3, .int v3)] [.int s2, .int s1, .ref (Y.2.2.1 54)] := by
  unfold b_X7_says_93 at hf
  obtain ⟨h6, hf⟩ := qa_ck_e hf
  obtain ⟨m7, em7, hf⟩ := qa_lt_e hf
  refine qi_iast hC rfl em7 sh_54 (qa_in_v h6) dX7_says_93 ?_
  obtain ⟨x8, ex8, hf⟩ := qa_lt_e hf
  refine qi_iinc hC (n := 1) (v := x8) 2 rfl ((congrArg (fun q => v2 + q) kn_iconst_1).trans ex8.symm) (by decide) rfl dX7_says_94 ?_
  refine qi_goto (tgt := 191) hC (by decide) dX7_says_97 ?_
  refine qi_sub hC [1, 2, 0, 3] rfl ?_
  exact t_X7_says_191 hC hQ hf hK
set_option maxRecDepth 100000 in
set_option maxHeartbeats 4000000 in
theorem t_X7_says_66 {X : qaX} {l : Launch} {Y : qaY} {fin : Int32 × qaM} (hC : QC X l Y cX7_says RX7 5 2) (hQ : QRi X Y (some .int) fin.2 fin.1) {m : qaM} {v1 : Int32} {v2 : Int32} {v3 : Int32} {v4 : Int32} {z : ((qaM × Int32 × Int32) ⊕ (Int32 × qaM))} (hf : b_X7_says_66 m v1 v2 v3 v4 = some z) (hK : (qa_K (fun s => QG X Y 5 s.1 16 [(0, .ref (Y.2.2.1 36)), (1, .int v1), (2, .int s.2.1), (3, .int s.2.2)] []) (qa_eq fin)) z) : QG X Y 5 m 66 [(0, .ref (Y.2.2.1 36)), (1, .int v1), (2, .int v2), (3, .int v3), (4, .int v4)] [] := by
  unfold b_X7_says_66 at hf
  refine qi_aload_n hC 0 rfl rfl dX7_says_66 ?_
  refine qi_getr hC kf_X7_61 sh_36 rfl dX7_says_67 ?_
  refine qi_iload_n hC 2 rfl rfl dX7_says_70 ?_
  refine qi_iload hC 4 rfl dX7_says_71 ?_
  refine qi_bipush hC dX7_says_73 kn_bipush_11 ?_
  refine qi_icmp_ge (tgt := 88) hC (by decide) dX7_says_75 (fun h => ?_) (fun h => ?_)
  · replace hf := qa_if_t h hf
    refine qi_iload hC 4 rfl dX7_says_88 ?_
    refine qi_ldc hC kk_X7_152 dX7_says_90 ?_
    refine qi_isub hC dX7_says_92 ?_
    refine qi_sub hC [0, 1, 2, 3] rfl ?_
    exact t_X7_says_93 hC hQ hf hK
  · replace hf := qa_if_f h hf
    refine qi_aload_n hC 0 rfl rfl dX7_says_78 ?_
    refine qi_getr hC kf_X7_64 sh_36 rfl dX7_says_79 ?_
    refine qi_iload hC 4 rfl dX7_says_82 ?_
    obtain ⟨h10, hf⟩ := qa_ck_e hf
    refine qi_iald hC rfl sh_55 (qa_in_v h10) dX7_says_84 ?_
    refine qi_goto (tgt := 93) hC (by decide) dX7_says_85 ?_
    refine qi_sub hC [0, 1, 2, 3] rfl ?_
    exact t_X7_says_93 hC hQ hf hK
set_option maxRecDepth 100000 in
set_option maxHeartbeats 4000000 in
theorem t_X7_says_130 {X : qaX} {l : Launch} {Y : qaY} {fin : Int32 × qaM} (hC : QC X l Y cX7_says RX7 5 2) (hQ : QRi X Y (some .int) fin.2 fin.1) {m : qaM} {v1 : Int32} {v2 : Int32} {v3 : Int32} {s1 : Int32} {s2 : Int32} {z : ((qaM × Int32 × Int32) ⊕ (Int32 × qaM))} (hf : b_X7_says_130 m v1 v2 v3 s1 s2 = some z) (hK : (qa_K (fun s => QG X Y 5 s.1 16 [(0, .ref (Y.2.2.1 36)), (1, .int v1), (2, .int s.2.1), (3, .int s.2.2)] []) (qa_eq fin)) z) : QG X Y 5 m 130 [(0, .ref (Y.2.2.1 36)), (1, .int v1), (2, .int v2), (3, .int v3)] [.int s2, .int s1, .ref (Y.2.2.1 54)] := by
  unfold b_X7_says_130 at hf
  obtain ⟨h21, hf⟩ := qa_ck_e hf
  obtain ⟨m22, em22, hf⟩ := qa_lt_e hf
  refine qi_iast hC rfl em22 sh_54 (qa_in_v h21) dX7_says_130 ?_
  refine qi_goto (tgt := 191) hC (by decide) dX7_says_131 ?_
  exact t_X7_says_191 hC hQ hf hK
set_option maxRecDepth 100000 in
set_option maxHeartbeats 4000000 in
theorem t_X7_says_16 {X : qaX} {l : Launch} {Y : qaY} {fin : Int32 × qaM} (hC : QC X l Y cX7_says RX7 5 2) (hQ : QRi X Y (some .int) fin.2 fin.1) {m : qaM} {v1 : Int32} {v2 : Int32} {v3 : Int32} {z : ((qaM × Int32 × Int32) ⊕ (Int32 × qaM))} (hf : b_X7_says_16 m v1 v2 v3 = some z) (hK : (qa_K (fun s => QG X Y 5 s.1 16 [(0, .ref (Y.2.2.1 36)), (1, .int v1), (2, .int s.2.1), (3, .int s.2.2)] []) (qa_eq fin)) z) : QG X Y 5 m 16 [(0, .ref (Y.2.2.1 36)), (1, .int v1), (2, .int v2), (3, .int v3)] [] := by
  unfold b_X7_says_16 at hf
  refine qi_iload_n hC 3 rfl rfl dX7_says_16 ?_
  refine qi_aload_n hC 0 rfl rfl dX7_says_17 ?_
  refine qi_getr hC kf_X7_31 sh_36 rfl dX7_says_18 ?_
  refine qi_iconst hC dX7_says_21 kn_iconst_4 ?_
  refine qi_aload_n hC 0 rfl rfl dX7_says_22 ?_
  refine qi_geti hC kf_X7_103 sh_36 rfl dX7_says_23 ?_
  refine qi_imul hC dX7_says_26 ?_
  refine qi_iload_n hC 1 rfl rfl dX7_says_27 ?_
  refine qi_iadd hC dX7_says_28 ?_
  refine qi_iconst hC dX7_says_29 kn_iconst_1 ?_
  refine qi_iadd hC dX7_says_30 ?_
  obtain ⟨h3, hf⟩ := qa_ck_e hf
  refine qi_iald hC rfl sh_44 (qa_in_v h3) dX7_says_31 ?_
  refine qi_icmp_ge (tgt := 197) hC (by decide) dX7_says_32 (fun h => ?_) (fun h => ?_)
  · replace hf := qa_if_t h hf
    obtain ⟨z, rfl, hg⟩ := qa_inr_e hf; have hf := hg
    refine qi_sub hC [0] rfl ?_
    exact t_X7_says_197 hC hQ hf hK
  · replace hf := qa_if_f h hf
    refine qi_aload_n hC 0 rfl rfl dX7_says_35 ?_
    refine qi_getr hC kf_X7_28 sh_36 rfl dX7_says_36 ?_
    refine qi_sipush hC dX7_says_39 kn_sipush_200 ?_
    refine qi_aload_n hC 0 rfl rfl dX7_says_42 ?_
    refine qi_geti hC kf_X7_103 sh_36 rfl dX7_says_43 ?_
    refine qi_imul hC dX7_says_46 ?_
    refine qi_iload_n hC 3 rfl rfl dX7_says_47 ?_
    refine qi_iadd hC dX7_says_48 ?_
    obtain ⟨h4, hf⟩ := qa_ck_e hf
    refine qi_iald hC rfl sh_43 (qa_in_v h4) dX7_says_49 ?_
    obtain ⟨x5, ex5, hf⟩ := qa_lt_e hf
    refine qi_nmi hC ex5 ?_
    refine qi_istore hC (by decide) rfl dX7_says_50 ?_
    refine qi_iload hC 0 rfl dX7_says_52 ?_
    refine qi_ldc hC kk_X7_152 dX7_says_54 ?_
    refine qi_icmp_ge (tgt := 66) hC (by decide) dX7_says_56 (fun h => ?_) (fun h => ?_)
    · replace hf := qa_if_t h hf
      refine qi_sub hC [1, 2, 3, 4, 0] rfl ?_
      exact t_X7_says_66 hC hQ hf hK
    · replace hf := qa_if_f h hf
      refine qi_iload hC 0 rfl dX7_says_59 ?_
      refine qi_bipush hC dX7_says_61 kn_bipush_11 ?_
      refine qi_icmp_ge (tgt := 100) hC (by decide) dX7_says_63 (fun h => ?_) (fun h => ?_)
      · replace hf := qa_if_t h hf
        refine qi_iload hC 0 rfl dX7_says_100 ?_
        refine qi_bipush hC dX7_says_102 kn_bipush_13 ?_
        refine qi_icmp_ne (tgt := 134) hC (by decide) dX7_says_104 (fun h => ?_) (fun h => ?_)
        · replace hf := qa_if_f h hf
          refine qi_iload hC 0 rfl dX7_says_134 ?_
          refine qi_bipush hC dX7_says_136 kn_bipush_19 ?_
          refine qi_icmp_ne (tgt := 161) hC (by decide) dX7_says_138 (fun h => ?_) (fun h => ?_)
          · replace hf := qa_if_f h hf
            obtain ⟨x11, ex11, hf⟩ := qa_lt_e hf
            refine qi_iinc hC (n := -1) (v := x11) 3 rfl ((congrArg (fun q => v2 + q) kn_iconst_m1).trans ex11.symm) (by decide) rfl dX7_says_161 ?_
            refine qi_aload_n hC 2 rfl rfl dX7_says_164 ?_
            refine qi_getr hC kf_X7_61 sh_36 rfl dX7_says_165 ?_
            refine qi_iload_n hC 0 rfl rfl dX7_says_168 ?_
            refine qi_iconst hC dX7_says_169 kn_iconst_1 ?_
            refine qi_isub hC dX7_says_170 ?_
            refine qi_iload hC 1 rfl dX7_says_171 ?_
            refine qi_aload_n hC 2 rfl rfl dX7_says_173 ?_
            refine qi_getr hC kf_X7_61 sh_36 rfl dX7_says_174 ?_
            refine qi_iload_n hC 0 rfl rfl dX7_says_177 ?_
            refine qi_iconst hC dX7_says_178 kn_iconst_1 ?_
            refine qi_isub hC dX7_says_179 ?_
            obtain ⟨h12, hf⟩ := qa_ck_e hf
            refine qi_iald hC rfl sh_54 (qa_in_v h12) dX7_says_180 ?_
            refine qi_aload_n hC 2 rfl rfl dX7_says_181 ?_
            refine qi_getr hC kf_X7_61 sh_36 rfl dX7_says_182 ?_
            refine qi_iload_n hC 0 rfl rfl dX7_says_185 ?_
            obtain ⟨h13, hf⟩ := qa_ck_e hf
            refine qi_iald hC rfl sh_54 (qa_in_v h13) dX7_says_186 ?_
            obtain ⟨q14, hq14, hf⟩ := Option.bind_eq_some_iff.mp hf
            refine qi_callSi hC (as := [.int x5, .int (m 54 (x11 - (1 : Int32)).toNatClampNeg), .int (m 54 x11.toNatClampNeg)]) (c_X7_two _ _ _ _ _ _ _ hq14) kl_X7_166 kc_X7_two rfl rfl (by decide) (by decide) (Nat.le_of_ble_eq_true rfl) dX7_says_187 ?_
            obtain ⟨h15, hf⟩ := qa_ck_e hf
            obtain ⟨m16, em16, hf⟩ := qa_lt_e hf
            refine qi_iast hC rfl em16 sh_54 (qa_in_v h15) dX7_says_190 ?_
            refine qi_sub hC [2, 3, 0, 4] rfl ?_
            exact t_X7_says_191 hC hQ hf hK
          · replace hf := qa_if_t h hf
            refine qi_aload_n hC 1 rfl rfl dX7_says_141 ?_
            refine qi_getr hC kf_X7_61 sh_36 rfl dX7_says_142 ?_
            refine qi_iload_n hC 3 rfl rfl dX7_says_145 ?_
            refine qi_iconst hC dX7_says_146 kn_iconst_1 ?_
            refine qi_isub hC dX7_says_147 ?_
            refine qi_aload_n hC 1 rfl rfl dX7_says_148 ?_
            refine qi_getr hC kf_X7_61 sh_36 rfl dX7_says_149 ?_
            refine qi_iload_n hC 3 rfl rfl dX7_says_152 ?_
            refine qi_iconst hC dX7_says_153 kn_iconst_1 ?_
            refine qi_isub hC dX7_says_154 ?_
            obtain ⟨h17, hf⟩ := qa_ck_e hf
            refine qi_iald hC rfl sh_54 (qa_in_v h17) dX7_says_155 ?_
            refine qi_ineg hC dX7_says_156 ?_
            obtain ⟨h18, hf⟩ := qa_ck_e hf
            obtain ⟨m19, em19, hf⟩ := qa_lt_e hf
            refine qi_iast hC rfl em19 sh_54 (qa_in_v h18) dX7_says_157 ?_
            refine qi_goto (tgt := 191) hC (by decide) dX7_says_158 ?_
            refine qi_sub hC [1, 2, 3, 4] rfl ?_
            exact t_X7_says_191 hC hQ hf hK
        · replace hf := qa_if_t h hf
          refine qi_aload_n hC 1 rfl rfl dX7_says_107 ?_
          refine qi_getr hC kf_X7_61 sh_36 rfl dX7_says_108 ?_
          refine qi_iload_n hC 3 rfl rfl dX7_says_111 ?_
          refine qi_iconst hC dX7_says_112 kn_iconst_1 ?_
          refine qi_isub hC dX7_says_113 ?_
          refine qi_aload_n hC 1 rfl rfl dX7_says_114 ?_
          refine qi_getr hC kf_X7_61 sh_36 rfl dX7_says_115 ?_
          refine qi_iload_n hC 3 rfl rfl dX7_says_118 ?_
          refine qi_iconst hC dX7_says_119 kn_iconst_1 ?_
          refine qi_isub hC dX7_says_120 ?_
          obtain ⟨h20, hf⟩ := qa_ck_e hf
          refine qi_iald hC rfl sh_54 (qa_in_v h20) dX7_says_121 ?_
          refine qi_if_ne (tgt := 129) hC (by decide) dX7_says_122 (fun h => ?_) (fun h => ?_)
          · replace hf := qa_if_f h hf
            refine qi_iconst hC dX7_says_129 kn_iconst_0 ?_
            refine qi_sub hC [1, 2, 3, 4] rfl ?_
            exact t_X7_says_130 hC hQ hf hK
          · replace hf := qa_if_t h hf
            refine qi_iconst hC dX7_says_125 kn_iconst_1 ?_
            refine qi_goto (tgt := 130) hC (by decide) dX7_says_126 ?_
            refine qi_sub hC [1, 2, 3, 4] rfl ?_
            exact t_X7_says_130 hC hQ hf hK
      · replace hf := qa_if_f h hf
        refine qi_sub hC [1, 2, 3, 4, 0] rfl ?_
        exact t_X7_says_66 hC hQ hf hK
set_option maxRecDepth 100000 in
set_option maxHeartbeats 4000000 in
theorem tn_X7_says_16 {X : qaX} {l : Launch} {Y : qaY} {fin : Int32 × qaM} (hC : QC X l Y cX7_says RX7 5 2) (hQ : QRi X Y (some .int) fin.2 fin.1) {v1 : Int32} {z : (Int32 × qaM)} (hK : (qa_eq fin) z) : ∀ (n : Nat) (s : qaM × Int32 × Int32), qa_lp (fun s => b_X7_says_16 s.1 v1 s.2.1 s.2.2) n s = some z → QG X Y 5 s.1 16 [(0, .ref (Y.2.2.1 36)), (1, .int v1), (2, .int s.2.1), (3, .int s.2.2)] [] := by
  intro n
  induction n with
  | zero => intro s hf; cases hf
  | succ n ih =>
    intro s hf
    obtain ⟨y, hy, hf⟩ := qa_lp_e hf
    refine t_X7_says_16 hC hQ hy ?_
    rcases hf with ⟨s', rfl, hf⟩ | rfl
    · exact ih s' hf
    · exact hK
set_option maxRecDepth 100000 in
set_option maxHeartbeats 4000000 in
theorem tl_X7_says_16 {X : qaX} {l : Launch} {Y : qaY} {fin : Int32 × qaM} (hC : QC X l Y cX7_says RX7 5 2) (hQ : QRi X Y (some .int) fin.2 fin.1) {m : qaM} {v1 : Int32} {v2 : Int32} {v3 : Int32} {z : (Int32 × qaM)} (hf : lp_X7_says_16 m v1 v2 v3 = some z) (hK : (qa_eq fin) z) : QG X Y 5 m 16 [(0, .ref (Y.2.2.1 36)), (1, .int v1), (2, .int v2), (3, .int v3)] [] :=
  tn_X7_says_16 hC hQ hK qa_F (m, v2, v3) hf
set_option maxRecDepth 100000 in
set_option maxHeartbeats 4000000 in
theorem c_X7_says (l : Launch) (Y : qaY) (m : qaM) (v1 : Int32) (q : Int32 × qaM) (hf : f_X7_says m v1 = some q) : qaMi l Y yX7_says cX7_says 5 (some .int) 2 [.ref (Y.2.2.1 36), .int v1] m q.2 q.1 := by
  refine qa_enti (by decide +kernel) (Nat.le_of_ble_eq_true rfl) fun X hC hQ => ?_
  have hK : qa_eq q q := rfl
  unfold f_X7_says at hf
  refine qi_iconst hC dX7_says_0 kn_iconst_0 ?_
  refine qi_istore_n hC rfl (by decide) rfl dX7_says_1 ?_
  refine qi_aload_n hC 1 rfl rfl dX7_says_2 ?_
  refine qi_getr hC kf_X7_31 sh_36 rfl dX7_says_3 ?_
  refine qi_iconst hC dX7_says_6 kn_iconst_4 ?_
  refine qi_aload_n hC 1 rfl rfl dX7_says_7 ?_
  refine qi_geti hC kf_X7_103 sh_36 rfl dX7_says_8 ?_
  refine qi_imul hC dX7_says_11 ?_
  refine qi_iload_n hC 2 rfl rfl dX7_says_12 ?_
  refine qi_iadd hC dX7_says_13 ?_
  obtain ⟨h1, hf⟩ := qa_ck_e hf
  refine qi_iald hC rfl sh_44 (qa_in_v h1) dX7_says_14 ?_
  obtain ⟨x2, ex2, hf⟩ := qa_lt_e hf
  refine qi_nmi hC ex2 ?_
  refine qi_istore_n hC rfl (by decide) rfl dX7_says_15 ?_
  refine qi_sub hC [2, 3, 1, 0] rfl ?_
  exact tl_X7_says_16 hC hQ hf hK
set_option maxRecDepth 100000 in
set_option maxHeartbeats 4000000 in
theorem c_X7_force (l : Launch) (Y : qaY) (m : qaM) (v1 : Int32) (q : Int32 × qaM) (hf : f_X7_force m v1 = some q) : qaMi l Y yX7_force cX7_force 3 (some .int) 2 [.ref (Y.2.2.1 36), .int v1] m q.2 q.1 := by
  refine qa_enti (by decide +kernel) (Nat.le_of_ble_eq_true rfl) fun X hC hQ => ?_
  have hK : qa_eq q q := rfl
  unfold f_X7_force at hf
  refine qi_iload_n hC 1 rfl rfl dX7_force_0 ?_
  refine qi_iconst hC dX7_force_1 kn_iconst_0 ?_
  refine qi_aload_n hC 0 rfl rfl dX7_force_2 ?_
  refine qi_geti hC kf_X7_100 sh_36 rfl dX7_force_3 ?_
  refine qi_iconst hC dX7_force_6 kn_iconst_1 ?_
  refine qi_isub hC dX7_force_7 ?_
  obtain ⟨q1, hq1, hf⟩ := Option.bind_eq_some_iff.mp hf
  refine qi_callSi hC (as := [.int v1, .int (0 : Int32), .int ((m 36 12) - (1 : Int32))]) (c_X7_in _ _ _ _ _ _ _ hq1) kl_X7_90 kc_X7_in rfl rfl (by decide) (by decide) (Nat.le_of_ble_eq_true rfl) dX7_force_8 ?_
  refine qi_if_ne (tgt := 17) hC (by decide) dX7_force_11 (fun h => ?_) (fun h => ?_)
  · replace hf := qa_if_f h hf
    refine qi_aload_n hC 0 rfl rfl dX7_force_17 ?_
    refine qi_geti hC kf_X7_103 sh_36 rfl dX7_force_18 ?_
    obtain ⟨x2, ex2, hf⟩ := qa_lt_e hf
    refine qi_nmi hC ex2 ?_
    refine qi_istore_n hC rfl (by decide) rfl dX7_force_21 ?_
    refine qi_aload_n hC 1 rfl rfl dX7_force_22 ?_
    refine qi_iload_n hC 2 rfl rfl dX7_force_23 ?_
    obtain ⟨m3, em3, hf⟩ := qa_lt_e hf
    refine qi_puti hC em3 kp_X7_103 sh_36 rfl rfl rfl dX7_force_24 ?_
    refine qi_iload_n hC 0 rfl rfl dX7_force_27 ?_
    obtain rfl := Option.some.inj hf
    exact qi_ireti hC hQ hK dX7_force_28
  · replace hf := qa_if_t h hf
    refine qi_bipush hC dX7_force_14 kn_bipush_m2 ?_
    obtain rfl := Option.some.inj hf
    exact qi_ireti hC hQ hK dX7_force_16
set_option maxRecDepth 100000 in
set_option maxHeartbeats 4000000 in
theorem c_X7_asksOf (l : Launch) (Y : qaY) (m : qaM) (v1 : Int32) (v2 : Int32) (v3 : Int32) (v4 : Int32) (v5 : Int32) (q : Int32 × qaM) (hf : f_X7_asksOf m v1 v2 v3 v4 v5 = some q) : qaMi l Y yX7_asksOf cX7_asksOf 6 (some .int) 3 [.ref (Y.2.2.1 36), .int v1, .int v2, .int v3, .int v4, .int v5] m q.2 q.1 := by
  refine qa_enti (by decide +kernel) (Nat.le_of_ble_eq_true rfl) fun X hC hQ => ?_
  have hK : qa_eq q q := rfl
  unfold f_X7_asksOf at hf
  refine qi_aload_n hC 0 rfl rfl dX7_asksOf_0 ?_
  refine qi_getr hC kf_X7_64 sh_36 rfl dX7_asksOf_1 ?_
  refine qi_iconst hC dX7_asksOf_4 kn_iconst_0 ?_
  refine qi_iload_n hC 2 rfl rfl dX7_asksOf_5 ?_
  obtain ⟨m1, em1, hf⟩ := qa_lt_e hf
  refine qi_iast hC tn_0 em1 sh_55 vi_0_6 dX7_asksOf_6 ?_
  refine qi_aload_n hC 0 rfl rfl dX7_asksOf_7 ?_
  refine qi_getr hC kf_X7_64 sh_36 rfl dX7_asksOf_8 ?_
  refine qi_iconst hC dX7_asksOf_11 kn_iconst_1 ?_
  refine qi_iload_n hC 3 rfl rfl dX7_asksOf_12 ?_
  obtain ⟨m2, em2, hf⟩ := qa_lt_e hf
  refine qi_iast hC tn_1 em2 sh_55 vi_1_6 dX7_asksOf_13 ?_
  refine qi_aload_n hC 0 rfl rfl dX7_asksOf_14 ?_
  refine qi_getr hC kf_X7_64 sh_36 rfl dX7_asksOf_15 ?_
  refine qi_iconst hC dX7_asksOf_18 kn_iconst_2 ?_
  refine qi_iload hC 4 rfl dX7_asksOf_19 ?_
  obtain ⟨m3, em3, hf⟩ := qa_lt_e hf
  refine qi_iast hC tn_2 em3 sh_55 vi_2_6 dX7_asksOf_21 ?_
  refine qi_aload_n hC 0 rfl rfl dX7_asksOf_22 ?_
  refine qi_getr hC kf_X7_64 sh_36 rfl dX7_asksOf_23 ?_
  refine qi_iconst hC dX7_asksOf_26 kn_iconst_3 ?_
  refine qi_iload hC 5 rfl dX7_asksOf_27 ?_
  obtain ⟨m4, em4, hf⟩ := qa_lt_e hf
  refine qi_iast hC tn_3 em4 sh_55 vi_3_6 dX7_asksOf_29 ?_
  refine qi_aload_n hC 0 rfl rfl dX7_asksOf_30 ?_
  refine qi_getr hC kf_X7_64 sh_36 rfl dX7_asksOf_31 ?_
  refine qi_iconst hC dX7_asksOf_34 kn_iconst_4 ?_
  refine qi_aload_n hC 0 rfl rfl dX7_asksOf_35 ?_
  refine qi_geti hC kf_X7_97 sh_36 rfl dX7_asksOf_36 ?_
  obtain ⟨m5, em5, hf⟩ := qa_lt_e hf
  refine qi_iast hC tn_4 em5 sh_55 vi_4_6 dX7_asksOf_39 ?_
  refine qi_aload_n hC 0 rfl rfl dX7_asksOf_40 ?_
  refine qi_getr hC kf_X7_64 sh_36 rfl dX7_asksOf_41 ?_
  refine qi_iconst hC dX7_asksOf_44 kn_iconst_5 ?_
  refine qi_aload_n hC 0 rfl rfl dX7_asksOf_45 ?_
  refine qi_getr hC kf_X7_22 sh_36 rfl dX7_asksOf_46 ?_
  refine qi_iconst hC dX7_asksOf_49 kn_iconst_0 ?_
  refine qi_iald hC tn_0 sh_41 vi_0_4 dX7_asksOf_50 ?_
  obtain ⟨m6, em6, hf⟩ := qa_lt_e hf
  refine qi_iast hC tn_5 em6 sh_55 vi_5_6 dX7_asksOf_51 ?_
  refine qi_aload_n hC 0 rfl rfl dX7_asksOf_52 ?_
  refine qi_iload_n hC 1 rfl rfl dX7_asksOf_53 ?_
  obtain ⟨q7, hq7, hf⟩ := Option.bind_eq_some_iff.mp hf
  refine qi_callVi hC (as := [.int v1]) (c_X7_says _ _ _ _ _ hq7) kl_X7_170 sh_36 kc_X7_says rfl rfl (by decide) (by decide) (Nat.le_of_ble_eq_true rfl) dX7_asksOf_54 ?_
  refine qi_iconst hC dX7_asksOf_57 kn_iconst_0 ?_
  refine qi_bipush hC dX7_asksOf_58 kn_bipush_99 ?_
  obtain ⟨q8, hq8, hf⟩ := Option.bind_eq_some_iff.mp hf
  refine qi_callSi hC (as := [.int q7.1, .int (0 : Int32), .int (99 : Int32)]) (c_X7_within _ _ _ _ _ _ _ hq8) kl_X7_173 kc_X7_within rfl rfl (by decide) (by decide) (Nat.le_of_ble_eq_true rfl) dX7_asksOf_60 ?_
  obtain rfl := Option.some.inj hf
  exact qi_ireti hC hQ hK dX7_asksOf_63
set_option maxRecDepth 100000 in
set_option maxHeartbeats 4000000 in
theorem t_X7_asks_56 {X : qaX} {l : Launch} {Y : qaY} {fin : Int32 × qaM} (hC : QC X l Y cX7_asks RX7 6 4) (hQ : QRi X Y (some .int) fin.2 fin.1) {m : qaM} {v1 : Int32} {v2 : Int32} {v3 : Int32} {v4 : Int32} {s0 : Int32} {z : (Int32 × qaM)} (hf : b_X7_asks_56 m v1 v2 v3 v4 s0 = some z) (hK : (qa_eq fin) z) : QG X Y 6 m 56 [(0, .ref (Y.2.2.1 36)), (1, .int v1), (2, .int v2), (3, .int v3), (4, .int v4)] [.int s0] := by
  unfold b_X7_asks_56 at hf
  refine qi_istore hC (by decide) rfl dX7_asks_56 ?_
  refine qi_iload hC 0 rfl dX7_asks_58 ?_
  refine qi_if_eq (tgt := 83) hC (by decide) dX7_asks_60 (fun h => ?_) (fun h => ?_)
  · replace hf := qa_if_t h hf
    refine qi_bipush hC dX7_asks_83 kn_bipush_m2 ?_
    obtain rfl := Option.some.inj hf
    exact qi_ireti hC hQ hK dX7_asks_85
  · replace hf := qa_if_f h hf
    refine qi_aload_n hC 1 rfl rfl dX7_asks_63 ?_
    refine qi_iload_n hC 2 rfl rfl dX7_asks_64 ?_
    refine qi_iload_n hC 3 rfl rfl dX7_asks_65 ?_
    refine qi_iload_n hC 4 rfl rfl dX7_asks_66 ?_
    refine qi_iload hC 5 rfl dX7_asks_67 ?_
    refine qi_bipush hC dX7_asks_69 kn_bipush_10 ?_
    refine qi_idiv hC (by decide) dX7_asks_71 ?_
    refine qi_iload hC 5 rfl dX7_asks_72 ?_
    refine qi_bipush hC dX7_asks_74 kn_bipush_10 ?_
    refine qi_irem hC (by decide) dX7_asks_76 ?_
    obtain ⟨q2, hq2, hf⟩ := Option.bind_eq_some_iff.mp hf
    refine qi_callVi hC (as := [.int v1, .int v2, .int v3, .int (v4 / (10 : Int32)), .int (v4 - v4 / (10 : Int32) * (10 : Int32))]) (c_X7_asksOf _ _ _ _ _ _ _ _ _ hq2) kl_X7_176 sh_36 kc_X7_asksOf rfl rfl (by decide) (by decide) (Nat.le_of_ble_eq_true rfl) dX7_asks_77 ?_
    refine qi_goto (tgt := 85) hC (by decide) dX7_asks_80 ?_
    obtain rfl := Option.some.inj hf
    exact qi_ireti hC hQ hK dX7_asks_85
set_option maxRecDepth 100000 in
set_option maxHeartbeats 4000000 in
theorem t_X7_asks_55 {X : qaX} {l : Launch} {Y : qaY} {fin : Int32 × qaM} (hC : QC X l Y cX7_asks RX7 6 4) (hQ : QRi X Y (some .int) fin.2 fin.1) {m : qaM} {v1 : Int32} {v2 : Int32} {v3 : Int32} {v4 : Int32} {z : (Int32 × qaM)} (hf : b_X7_asks_55 m v1 v2 v3 v4 = some z) (hK : (qa_eq fin) z) : QG X Y 6 m 55 [(0, .ref (Y.2.2.1 36)), (1, .int v1), (2, .int v2), (3, .int v3), (4, .int v4)] [] := by
  unfold b_X7_asks_55 at hf
  refine qi_iconst hC dX7_asks_55 kn_iconst_0 ?_
  exact t_X7_asks_56 hC hQ hf hK
set_option maxRecDepth 100000 in
set_option maxHeartbeats 4000000 in
theorem c_X7_asks (l : Launch) (Y : qaY) (m : qaM) (v1 : Int32) (v2 : Int32) (v3 : Int32) (v4 : Int32) (q : Int32 × qaM) (hf : f_X7_asks m v1 v2 v3 v4 = some q) : qaMi l Y yX7_asks cX7_asks 6 (some .int) 4 [.ref (Y.2.2.1 36), .int v1, .int v2, .int v3, .int v4] m q.2 q.1 := by
  refine qa_enti (by decide +kernel) (Nat.le_of_ble_eq_true rfl) fun X hC hQ => ?_
  have hK : qa_eq q q := rfl
  unfold f_X7_asks at hf
  refine qi_iload_n hC 1 rfl rfl dX7_asks_0 ?_
  refine qi_iconst hC dX7_asks_1 kn_iconst_0 ?_
  refine qi_iconst hC dX7_asks_2 kn_iconst_2 ?_
  obtain ⟨q1, hq1, hf⟩ := Option.bind_eq_some_iff.mp hf
  refine qi_callSi hC (as := [.int v1, .int (0 : Int32), .int (2 : Int32)]) (c_X7_in _ _ _ _ _ _ _ hq1) kl_X7_90 kc_X7_in rfl rfl (by decide) (by decide) (Nat.le_of_ble_eq_true rfl) dX7_asks_3 ?_
  refine qi_if_eq (tgt := 55) hC (by decide) dX7_asks_6 (fun h => ?_) (fun h => ?_)
  · replace hf := qa_if_t h hf
    exact t_X7_asks_55 hC hQ hf hK
  · replace hf := qa_if_f h hf
    refine qi_iload_n hC 2 rfl rfl dX7_asks_9 ?_
    refine qi_iconst hC dX7_asks_10 kn_iconst_0 ?_
    refine qi_sipush hC dX7_asks_11 kn_sipush_999 ?_
    obtain ⟨q3, hq3, hf⟩ := Option.bind_eq_some_iff.mp hf
    refine qi_callSi hC (as := [.int v2, .int (0 : Int32), .int (999 : Int32)]) (c_X7_in _ _ _ _ _ _ _ hq3) kl_X7_90 kc_X7_in rfl rfl (by decide) (by decide) (Nat.le_of_ble_eq_true rfl) dX7_asks_14 ?_
    refine qi_if_eq (tgt := 55) hC (by decide) dX7_asks_17 (fun h => ?_) (fun h => ?_)
    · replace hf := qa_if_t h hf
      exact t_X7_asks_55 hC hQ hf hK
    · replace hf := qa_if_f h hf
      refine qi_iload_n hC 3 rfl rfl dX7_asks_20 ?_
      refine qi_iconst hC dX7_asks_21 kn_iconst_0 ?_
      refine qi_sipush hC dX7_asks_22 kn_sipush_999 ?_
      obtain ⟨q4, hq4, hf⟩ := Option.bind_eq_some_iff.mp hf
      refine qi_callSi hC (as := [.int v3, .int (0 : Int32), .int (999 : Int32)]) (c_X7_in _ _ _ _ _ _ _ hq4) kl_X7_90 kc_X7_in rfl rfl (by decide) (by decide) (Nat.le_of_ble_eq_true rfl) dX7_asks_25 ?_
      refine qi_if_eq (tgt := 55) hC (by decide) dX7_asks_28 (fun h => ?_) (fun h => ?_)
      · replace hf := qa_if_t h hf
        exact t_X7_asks_55 hC hQ hf hK
      · replace hf := qa_if_f h hf
        refine qi_iload hC 4 rfl dX7_asks_31 ?_
        refine qi_iconst hC dX7_asks_33 kn_iconst_0 ?_
        refine qi_bipush hC dX7_asks_34 kn_bipush_91 ?_
        obtain ⟨q5, hq5, hf⟩ := Option.bind_eq_some_iff.mp hf
        refine qi_callSi hC (as := [.int v4, .int (0 : Int32), .int (91 : Int32)]) (c_X7_in _ _ _ _ _ _ _ hq5) kl_X7_90 kc_X7_in rfl rfl (by decide) (by decide) (Nat.le_of_ble_eq_true rfl) dX7_asks_36 ?_
        refine qi_if_eq (tgt := 55) hC (by decide) dX7_asks_39 (fun h => ?_) (fun h => ?_)
        · replace hf := qa_if_t h hf
          exact t_X7_asks_55 hC hQ hf hK
        · replace hf := qa_if_f h hf
          refine qi_iload hC 4 rfl dX7_asks_42 ?_
          refine qi_bipush hC dX7_asks_44 kn_bipush_10 ?_
          refine qi_irem hC (by decide) dX7_asks_46 ?_
          refine qi_iconst hC dX7_asks_47 kn_iconst_2 ?_
          refine qi_icmp_ge (tgt := 55) hC (by decide) dX7_asks_48 (fun h => ?_) (fun h => ?_)
          · replace hf := qa_if_t h hf
            exact t_X7_asks_55 hC hQ hf hK
          · replace hf := qa_if_f h hf
            refine qi_iconst hC dX7_asks_51 kn_iconst_1 ?_
            refine qi_goto (tgt := 56) hC (by decide) dX7_asks_52 ?_
            exact t_X7_asks_56 hC hQ hf hK
set_option maxRecDepth 100000 in
set_option maxHeartbeats 4000000 in
theorem t_X7_laysAt_30 {X : qaX} {l : Launch} {Y : qaY} {fin : qaM} (hC : QC X l Y cX7_laysAt RX7 4 1) (hQ : QRv X Y fin) {m : qaM} {v1 : Int32} {v2 : Int32} {z : (qaM)} (hf : b_X7_laysAt_30 m v1 v2 = some z) (hK : (qa_eq fin) z) : QG X Y 4 m 30 [(0, .ref (Y.2.2.1 36)), (1, .int v1), (2, .int v2)] [] := by
  unfold b_X7_laysAt_30 at hf
  refine qi_aload_n hC 0 rfl rfl dX7_laysAt_30 ?_
  refine qi_getr hC kf_X7_19 sh_36 rfl dX7_laysAt_31 ?_
  refine qi_iload_n hC 2 rfl rfl dX7_laysAt_34 ?_
  refine qi_iload_n hC 1 rfl rfl dX7_laysAt_35 ?_
  obtain ⟨h2, hf⟩ := qa_ck_e hf
  obtain ⟨m3, em3, hf⟩ := qa_lt_e hf
  refine qi_iast hC rfl em3 sh_40 (qa_in_v h2) dX7_laysAt_36 ?_
  refine qi_aload_n hC 0 rfl rfl dX7_laysAt_37 ?_
  refine qi_dup hC rfl dX7_laysAt_38 ?_
  refine qi_geti hC kf_X7_94 sh_36 rfl dX7_laysAt_39 ?_
  refine qi_iconst hC dX7_laysAt_42 kn_iconst_1 ?_
  refine qi_iadd hC dX7_laysAt_43 ?_
  obtain ⟨m4, em4, hf⟩ := qa_lt_e hf
  refine qi_puti hC em4 kp_X7_94 sh_36 rfl rfl rfl dX7_laysAt_44 ?_
  obtain rfl := Option.some.inj hf
  exact qi_vret hC hQ hK dX7_laysAt_47
set_option maxRecDepth 100000 in
set_option maxHeartbeats 4000000 in
theorem t_X7_laysAt_5 {X : qaX} {l : Launch} {Y : qaY} {fin : qaM} (hC : QC X l Y cX7_laysAt RX7 4 1) (hQ : QRv X Y fin) {m : qaM} {v1 : Int32} {v2 : Int32} {v3 : Int32} {z : ((qaM × Int32) ⊕ (qaM))} (hf : b_X7_laysAt_5 m v1 v2 v3 = some z) (hK : (qa_K (fun s => QG X Y 4 s.1 5 [(0, .ref (Y.2.2.1 36)), (1, .int v1), (2, .int v2), (3, .int s.2)] []) (qa_eq fin)) z) : QG X Y 4 m 5 [(0, .ref (Y.2.2.1 36)), (1, .int v1), (2, .int v2), (3, .int v3)] [] := by
  unfold b_X7_laysAt_5 at hf
  refine qi_iload_n hC 3 rfl rfl dX7_laysAt_5 ?_
  refine qi_iload_n hC 2 rfl rfl dX7_laysAt_6 ?_
  refine qi_icmp_le (tgt := 30) hC (by decide) dX7_laysAt_7 (fun h => ?_) (fun h => ?_)
  · replace hf := qa_if_t h hf
    obtain ⟨z, rfl, hg⟩ := qa_inr_e hf; have hf := hg
    refine qi_sub hC [0, 1, 2] rfl ?_
    exact t_X7_laysAt_30 hC hQ hf hK
  · replace hf := qa_if_f h hf
    refine qi_aload_n hC 0 rfl rfl dX7_laysAt_10 ?_
    refine qi_getr hC kf_X7_19 sh_36 rfl dX7_laysAt_11 ?_
    refine qi_iload_n hC 3 rfl rfl dX7_laysAt_14 ?_
    refine qi_aload_n hC 0 rfl rfl dX7_laysAt_15 ?_
    refine qi_getr hC kf_X7_19 sh_36 rfl dX7_laysAt_16 ?_
    refine qi_iload_n hC 3 rfl rfl dX7_laysAt_19 ?_
    refine qi_iconst hC dX7_laysAt_20 kn_iconst_1 ?_
    refine qi_isub hC dX7_laysAt_21 ?_
    obtain ⟨h5, hf⟩ := qa_ck_e hf
    refine qi_iald hC rfl sh_40 (qa_in_v h5) dX7_laysAt_22 ?_
    obtain ⟨h6, hf⟩ := qa_ck_e hf
    obtain ⟨m7, em7, hf⟩ := qa_lt_e hf
    refine qi_iast hC rfl em7 sh_40 (qa_in_v h6) dX7_laysAt_23 ?_
    obtain ⟨x8, ex8, hf⟩ := qa_lt_e hf
    refine qi_iinc hC (n := -1) (v := x8) 3 rfl ((congrArg (fun q => v3 + q) kn_iconst_m1).trans ex8.symm) (by decide) rfl dX7_laysAt_24 ?_
    refine qi_goto (tgt := 5) hC (by decide) dX7_laysAt_27 ?_
    obtain rfl := Option.some.inj hf
    refine qi_sub hC [1, 2, 3, 0] rfl ?_
    exact hK
set_option maxRecDepth 100000 in
set_option maxHeartbeats 4000000 in
theorem tn_X7_laysAt_5 {X : qaX} {l : Launch} {Y : qaY} {fin : qaM} (hC : QC X l Y cX7_laysAt RX7 4 1) (hQ : QRv X Y fin) {v1 : Int32} {v2 : Int32} {z : (qaM)} (hK : (qa_eq fin) z) : ∀ (n : Nat) (s : qaM × Int32), qa_lp (fun s => b_X7_laysAt_5 s.1 v1 v2 s.2) n s = some z → QG X Y 4 s.1 5 [(0, .ref (Y.2.2.1 36)), (1, .int v1), (2, .int v2), (3, .int s.2)] [] := by
  intro n
  induction n with
  | zero => intro s hf; cases hf
  | succ n ih =>
    intro s hf
    obtain ⟨y, hy, hf⟩ := qa_lp_e hf
    refine t_X7_laysAt_5 hC hQ hy ?_
    rcases hf with ⟨s', rfl, hf⟩ | rfl
    · exact ih s' hf
    · exact hK
set_option maxRecDepth 100000 in
set_option maxHeartbeats 4000000 in
theorem tl_X7_laysAt_5 {X : qaX} {l : Launch} {Y : qaY} {fin : qaM} (hC : QC X l Y cX7_laysAt RX7 4 1) (hQ : QRv X Y fin) {m : qaM} {v1 : Int32} {v2 : Int32} {v3 : Int32} {z : (qaM)} (hf : lp_X7_laysAt_5 m v1 v2 v3 = some z) (hK : (qa_eq fin) z) : QG X Y 4 m 5 [(0, .ref (Y.2.2.1 36)), (1, .int v1), (2, .int v2), (3, .int v3)] [] :=
  tn_X7_laysAt_5 hC hQ hK qa_F (m, v3) hf
set_option maxRecDepth 100000 in
set_option maxHeartbeats 4000000 in
theorem c_X7_laysAt (l : Launch) (Y : qaY) (m : qaM) (v1 : Int32) (v2 : Int32) (q : qaM) (hf : f_X7_laysAt m v1 v2 = some q) : qaMv l Y yX7_laysAt cX7_laysAt 4 1 [.ref (Y.2.2.1 36), .int v1, .int v2] m q := by
  refine qa_entv (by decide +kernel) (Nat.le_of_ble_eq_true rfl) fun X hC hQ => ?_
  have hK : qa_eq q q := rfl
  unfold f_X7_laysAt at hf
  refine qi_aload_n hC 0 rfl rfl dX7_laysAt_0 ?_
  refine qi_geti hC kf_X7_94 sh_36 rfl dX7_laysAt_1 ?_
  obtain ⟨x1, ex1, hf⟩ := qa_lt_e hf
  refine qi_nmi hC ex1 ?_
  refine qi_istore_n hC rfl (by decide) rfl dX7_laysAt_4 ?_
  refine qi_sub hC [1, 2, 3, 0] rfl ?_
  exact tl_X7_laysAt_5 hC hQ hf hK
set_option maxRecDepth 100000 in
set_option maxHeartbeats 4000000 in
theorem t_X7_lays_59 {X : qaX} {l : Launch} {Y : qaY} {fin : qaM} (hC : QC X l Y cX7_lays RX7 3 2) (hQ : QRv X Y fin) {m : qaM} {v1 : Int32} {v2 : Int32} {z : (qaM)} (hf : b_X7_lays_59 m v1 v2 = some z) (hK : (qa_eq fin) z) : QG X Y 3 m 59 [(0, .ref (Y.2.2.1 36)), (1, .int v1), (2, .int v2)] [] := by
  unfold b_X7_lays_59 at hf
  refine qi_aload_n hC 0 rfl rfl dX7_lays_59 ?_
  refine qi_iload_n hC 1 rfl rfl dX7_lays_60 ?_
  refine qi_iload_n hC 2 rfl rfl dX7_lays_61 ?_
  obtain ⟨q1, hq1, hf⟩ := Option.bind_eq_some_iff.mp hf
  refine qi_callVv hC (as := [.int v1, .int v2]) (c_X7_laysAt _ _ _ _ _ _ hq1) kl_X7_180 sh_36 kc_X7_laysAt rfl rfl (by decide) (by decide) (Nat.le_of_ble_eq_true rfl) dX7_lays_62 ?_
  obtain rfl := Option.some.inj hf
  exact qi_vret hC hQ hK dX7_lays_65
set_option maxRecDepth 100000 in
set_option maxHeartbeats 4000000 in
theorem t_X7_lays_19 {X : qaX} {l : Launch} {Y : qaY} {fin : qaM} (hC : QC X l Y cX7_lays RX7 3 2) (hQ : QRv X Y fin) {m : qaM} {v1 : Int32} {v2 : Int32} {z : ((Int32) ⊕ (qaM))} (hf : b_X7_lays_19 m v1 v2 = some z) (hK : (qa_K (fun s => QG X Y 3 m 19 [(0, .ref (Y.2.2.1 36)), (1, .int v1), (2, .int s)] []) (qa_eq fin)) z) : QG X Y 3 m 19 [(0, .ref (Y.2.2.1 36)), (1, .int v1), (2, .int v2)] [] := by
  unfold b_X7_lays_19 at hf
  refine qi_aload_n hC 0 rfl rfl dX7_lays_19 ?_
  refine qi_getr hC kf_X7_22 sh_36 rfl dX7_lays_20 ?_
  refine qi_iconst hC dX7_lays_23 kn_iconst_3 ?_
  refine qi_iald hC tn_3 sh_41 vi_3_4 dX7_lays_24 ?_
  refine qi_iconst hC dX7_lays_25 kn_iconst_2 ?_
  refine qi_icmp_ne (tgt := 59) hC (by decide) dX7_lays_26 (fun h => ?_) (fun h => ?_)
  · replace hf := qa_if_f h hf
    obtain ⟨z, rfl, hg⟩ := qa_inr_e hf; have hf := hg
    exact t_X7_lays_59 hC hQ hf hK
  · replace hf := qa_if_t h hf
    refine qi_iload_n hC 2 rfl rfl dX7_lays_29 ?_
    refine qi_aload_n hC 0 rfl rfl dX7_lays_30 ?_
    refine qi_geti hC kf_X7_94 sh_36 rfl dX7_lays_31 ?_
    refine qi_icmp_ge (tgt := 59) hC (by decide) dX7_lays_34 (fun h => ?_) (fun h => ?_)
    · replace hf := qa_if_t h hf
      obtain ⟨z, rfl, hg⟩ := qa_inr_e hf; have hf := hg
      exact t_X7_lays_59 hC hQ hf hK
    · replace hf := qa_if_f h hf
      refine qi_aload_n hC 0 rfl rfl dX7_lays_37 ?_
      refine qi_getr hC kf_X7_19 sh_36 rfl dX7_lays_38 ?_
      refine qi_iload_n hC 2 rfl rfl dX7_lays_41 ?_
      refine qi_iconst hC dX7_lays_42 kn_iconst_0 ?_
      refine qi_bipush hC dX7_lays_43 kn_bipush_8 ?_
      obtain ⟨q2, hq2, hf⟩ := Option.bind_eq_some_iff.mp hf
      refine qi_callSi hC (as := [.int v2, .int (0 : Int32), .int (8 : Int32)]) (c_X7_within _ _ _ _ _ _ _ hq2) kl_X7_173 kc_X7_within rfl rfl (by decide) (by decide) (Nat.le_of_ble_eq_true rfl) dX7_lays_45 ?_
      obtain ⟨h3, hf⟩ := qa_ck_e hf
      refine qi_iald hC rfl sh_40 (qa_in_v h3) dX7_lays_48 ?_
      refine qi_iload_n hC 1 rfl rfl dX7_lays_49 ?_
      refine qi_icmp_ge (tgt := 59) hC (by decide) dX7_lays_50 (fun h => ?_) (fun h => ?_)
      · replace hf := qa_if_t h hf
        obtain ⟨z, rfl, hg⟩ := qa_inr_e hf; have hf := hg
        exact t_X7_lays_59 hC hQ hf hK
      · replace hf := qa_if_f h hf
        obtain ⟨x4, ex4, hf⟩ := qa_lt_e hf
        refine qi_iinc hC (n := 1) (v := x4) 2 rfl ((congrArg (fun q => v2 + q) kn_iconst_1).trans ex4.symm) (by decide) rfl dX7_lays_53 ?_
        refine qi_goto (tgt := 19) hC (by decide) dX7_lays_56 ?_
        obtain rfl := Option.some.inj hf
        refine qi_sub hC [1, 2, 0] rfl ?_
        exact hK
set_option maxRecDepth 100000 in
set_option maxHeartbeats 4000000 in
theorem tn_X7_lays_19 {X : qaX} {l : Launch} {Y : qaY} {fin : qaM} (hC : QC X l Y cX7_lays RX7 3 2) (hQ : QRv X Y fin) {m : qaM} {v1 : Int32} {z : (qaM)} (hK : (qa_eq fin) z) : ∀ (n : Nat) (s : Int32), qa_lp (fun s => b_X7_lays_19 m v1 s) n s = some z → QG X Y 3 m 19 [(0, .ref (Y.2.2.1 36)), (1, .int v1), (2, .int s)] [] := by
  intro n
  induction n with
  | zero => intro s hf; cases hf
  | succ n ih =>
    intro s hf
    obtain ⟨y, hy, hf⟩ := qa_lp_e hf
    refine t_X7_lays_19 hC hQ hy ?_
    rcases hf with ⟨s', rfl, hf⟩ | rfl
    · exact ih s' hf
    · exact hK
set_option maxRecDepth 100000 in
set_option maxHeartbeats 4000000 in
theorem tl_X7_lays_19 {X : qaX} {l : Launch} {Y : qaY} {fin : qaM} (hC : QC X l Y cX7_lays RX7 3 2) (hQ : QRv X Y fin) {m : qaM} {v1 : Int32} {v2 : Int32} {z : (qaM)} (hf : lp_X7_lays_19 m v1 v2 = some z) (hK : (qa_eq fin) z) : QG X Y 3 m 19 [(0, .ref (Y.2.2.1 36)), (1, .int v1), (2, .int v2)] [] :=
  tn_X7_lays_19 hC hQ hK qa_F v2 hf
set_option maxRecDepth 100000 in
set_option maxHeartbeats 4000000 in
theorem t_X7_lays_18 {X : qaX} {l : Launch} {Y : qaY} {fin : qaM} (hC : QC X l Y cX7_lays RX7 3 2) (hQ : QRv X Y fin) {m : qaM} {v1 : Int32} {s0 : Int32} {z : (qaM)} (hf : b_X7_lays_18 m v1 s0 = some z) (hK : (qa_eq fin) z) : QG X Y 3 m 18 [(0, .ref (Y.2.2.1 36)), (1, .int v1)] [.int s0] := by
  unfold b_X7_lays_18 at hf
  refine qi_istore_n hC rfl (by decide) rfl dX7_lays_18 ?_
  refine qi_sub hC [1, 2, 0] rfl ?_
  exact tl_X7_lays_19 hC hQ hf hK
set_option maxRecDepth 100000 in
set_option maxHeartbeats 4000000 in
theorem c_X7_lays (l : Launch) (Y : qaY) (m : qaM) (v1 : Int32) (q : qaM) (hf : f_X7_lays m v1 = some q) : qaMv l Y yX7_lays cX7_lays 3 2 [.ref (Y.2.2.1 36), .int v1] m q := by
  refine qa_entv (by decide +kernel) (Nat.le_of_ble_eq_true rfl) fun X hC hQ => ?_
  have hK : qa_eq q q := rfl
  unfold f_X7_lays at hf
  refine qi_aload_n hC 0 rfl rfl dX7_lays_0 ?_
  refine qi_getr hC kf_X7_22 sh_36 rfl dX7_lays_1 ?_
  refine qi_iconst hC dX7_lays_4 kn_iconst_3 ?_
  refine qi_iald hC tn_3 sh_41 vi_3_4 dX7_lays_5 ?_
  refine qi_iconst hC dX7_lays_6 kn_iconst_1 ?_
  refine qi_icmp_ne (tgt := 17) hC (by decide) dX7_lays_7 (fun h => ?_) (fun h => ?_)
  · replace hf := qa_if_f h hf
    refine qi_iconst hC dX7_lays_17 kn_iconst_0 ?_
    exact t_X7_lays_18 hC hQ hf hK
  · replace hf := qa_if_t h hf
    refine qi_aload_n hC 0 rfl rfl dX7_lays_10 ?_
    refine qi_geti hC kf_X7_94 sh_36 rfl dX7_lays_11 ?_
    refine qi_goto (tgt := 18) hC (by decide) dX7_lays_14 ?_
    exact t_X7_lays_18 hC hQ hf hK
set_option maxRecDepth 100000 in
set_option maxHeartbeats 4000000 in
theorem t_X7_takesFrom_19 {X : qaX} {l : Launch} {Y : qaY} {fin : Int32 × qaM} (hC : QC X l Y cX7_takesFrom RX7 4 1) (hQ : QRi X Y (some .int) fin.2 fin.1) {m : qaM} {v2 : Int32} {v3 : Int32} {z : ((qaM × Int32) ⊕ (Int32 × qaM))} (hf : b_X7_takesFrom_19 m v2 v3 = some z) (hK : (qa_K (fun s => QG X Y 4 s.1 19 [(0, .ref (Y.2.2.1 36)), (2, .int v2), (3, .int s.2)] []) (qa_eq fin)) z) : QG X Y 4 m 19 [(0, .ref (Y.2.2.1 36)), (2, .int v2), (3, .int v3)] [] := by
  unfold b_X7_takesFrom_19 at hf
  refine qi_iload_n hC 2 rfl rfl dX7_takesFrom_19 ?_
  refine qi_aload_n hC 0 rfl rfl dX7_takesFrom_20 ?_
  refine qi_geti hC kf_X7_94 sh_36 rfl dX7_takesFrom_21 ?_
  refine qi_icmp_ge (tgt := 47) hC (by decide) dX7_takesFrom_24 (fun h => ?_) (fun h => ?_)
  · replace hf := qa_if_t h hf
    refine qi_iload_n hC 1 rfl rfl dX7_takesFrom_47 ?_
    obtain ⟨z, rfl, hg⟩ := qa_inr_e hf; have hf := hg
    obtain rfl := Option.some.inj hf
    exact qi_ireti hC hQ hK dX7_takesFrom_48
  · replace hf := qa_if_f h hf
    refine qi_aload_n hC 0 rfl rfl dX7_takesFrom_27 ?_
    refine qi_getr hC kf_X7_19 sh_36 rfl dX7_takesFrom_28 ?_
    refine qi_iload_n hC 2 rfl rfl dX7_takesFrom_31 ?_
    refine qi_aload_n hC 0 rfl rfl dX7_takesFrom_32 ?_
    refine qi_getr hC kf_X7_19 sh_36 rfl dX7_takesFrom_33 ?_
    refine qi_iload_n hC 2 rfl rfl dX7_takesFrom_36 ?_
    refine qi_iconst hC dX7_takesFrom_37 kn_iconst_1 ?_
    refine qi_iadd hC dX7_takesFrom_38 ?_
    obtain ⟨h4, hf⟩ := qa_ck_e hf
    refine qi_iald hC rfl sh_40 (qa_in_v h4) dX7_takesFrom_39 ?_
    obtain ⟨h5, hf⟩ := qa_ck_e hf
    obtain ⟨m6, em6, hf⟩ := qa_lt_e hf
    refine qi_iast hC rfl em6 sh_40 (qa_in_v h5) dX7_takesFrom_40 ?_
    obtain ⟨x7, ex7, hf⟩ := qa_lt_e hf
    refine qi_iinc hC (n := 1) (v := x7) 2 rfl ((congrArg (fun q => v3 + q) kn_iconst_1).trans ex7.symm) (by decide) rfl dX7_takesFrom_41 ?_
    refine qi_goto (tgt := 19) hC (by decide) dX7_takesFrom_44 ?_
    obtain rfl := Option.some.inj hf
    refine qi_sub hC [1, 2, 0] rfl ?_
    exact hK
set_option maxRecDepth 100000 in
set_option maxHeartbeats 4000000 in
theorem tn_X7_takesFrom_19 {X : qaX} {l : Launch} {Y : qaY} {fin : Int32 × qaM} (hC : QC X l Y cX7_takesFrom RX7 4 1) (hQ : QRi X Y (some .int) fin.2 fin.1) {v2 : Int32} {z : (Int32 × qaM)} (hK : (qa_eq fin) z) : ∀ (n : Nat) (s : qaM × Int32), qa_lp (fun s => b_X7_takesFrom_19 s.1 v2 s.2) n s = some z → QG X Y 4 s.1 19 [(0, .ref (Y.2.2.1 36)), (2, .int v2), (3, .int s.2)] [] := by
  intro n
  induction n with
  | zero => intro s hf; cases hf
  | succ n ih =>
    intro s hf
    obtain ⟨y, hy, hf⟩ := qa_lp_e hf
    refine t_X7_takesFrom_19 hC hQ hy ?_
    rcases hf with ⟨s', rfl, hf⟩ | rfl
    · exact ih s' hf
    · exact hK
set_option maxRecDepth 100000 in
set_option maxHeartbeats 4000000 in
theorem tl_X7_takesFrom_19 {X : qaX} {l : Launch} {Y : qaY} {fin : Int32 × qaM} (hC : QC X l Y cX7_takesFrom RX7 4 1) (hQ : QRi X Y (some .int) fin.2 fin.1) {m : qaM} {v2 : Int32} {v3 : Int32} {z : (Int32 × qaM)} (hf : lp_X7_takesFrom_19 m v2 v3 = some z) (hK : (qa_eq fin) z) : QG X Y 4 m 19 [(0, .ref (Y.2.2.1 36)), (2, .int v2), (3, .int v3)] [] :=
  tn_X7_takesFrom_19 hC hQ hK qa_F (m, v3) hf
set_option maxRecDepth 100000 in
set_option maxHeartbeats 4000000 in
theorem c_X7_takesFrom (l : Launch) (Y : qaY) (m : qaM) (v1 : Int32) (q : Int32 × qaM) (hf : f_X7_takesFrom m v1 = some q) : qaMi l Y yX7_takesFrom cX7_takesFrom 4 (some .int) 1 [.ref (Y.2.2.1 36), .int v1] m q.2 q.1 := by
  refine qa_enti (by decide +kernel) (Nat.le_of_ble_eq_true rfl) fun X hC hQ => ?_
  have hK : qa_eq q q := rfl
  unfold f_X7_takesFrom at hf
  refine qi_aload_n hC 0 rfl rfl dX7_takesFrom_0 ?_
  refine qi_getr hC kf_X7_19 sh_36 rfl dX7_takesFrom_1 ?_
  refine qi_iload_n hC 1 rfl rfl dX7_takesFrom_4 ?_
  obtain ⟨h1, hf⟩ := qa_ck_e hf
  refine qi_iald hC rfl sh_40 (qa_in_v h1) dX7_takesFrom_5 ?_
  obtain ⟨x2, ex2, hf⟩ := qa_lt_e hf
  refine qi_nmi hC ex2 ?_
  refine qi_istore_n hC rfl (by decide) rfl dX7_takesFrom_6 ?_
  refine qi_aload_n hC 1 rfl rfl dX7_takesFrom_7 ?_
  refine qi_dup hC rfl dX7_takesFrom_8 ?_
  refine qi_geti hC kf_X7_94 sh_36 rfl dX7_takesFrom_9 ?_
  refine qi_iconst hC dX7_takesFrom_12 kn_iconst_1 ?_
  refine qi_isub hC dX7_takesFrom_13 ?_
  obtain ⟨m3, em3, hf⟩ := qa_lt_e hf
  refine qi_puti hC em3 kp_X7_94 sh_36 rfl rfl rfl dX7_takesFrom_14 ?_
  refine qi_iload_n hC 2 rfl rfl dX7_takesFrom_17 ?_
  refine qi_istore_n hC rfl (by decide) rfl dX7_takesFrom_18 ?_
  refine qi_sub hC [2, 1, 0] rfl ?_
  exact tl_X7_takesFrom_19 hC hQ hf hK
set_option maxRecDepth 100000 in
set_option maxHeartbeats 4000000 in
theorem t_X7_placeBy_106 {X : qaX} {l : Launch} {Y : qaY} {fin : Int32} {m : qaM} (hC : QC X l Y cX7_placeBy RX7 6 1) (hQ : QRi X Y (some .int) m fin) {v1 : Int32} {v3 : Int32} {s0 : Int32} {z : ((Int32 × Int32) ⊕ (Int32))} (hf : b_X7_placeBy_106 m v1 v3 s0 = some z) (hK : (qa_K (fun s => QG X Y 6 m 18 [(0, .ref (Y.2.2.1 36)), (1, .int v1), (2, .int s.1), (3, .int s.2)] []) (qa_eq fin)) z) : QG X Y 6 m 106 [(0, .ref (Y.2.2.1 36)), (1, .int v1), (3, .int v3)] [.int s0] := by
  unfold b_X7_placeBy_106 at hf
  refine qi_istore_n hC rfl (by decide) rfl dX7_placeBy_106 ?_
  obtain ⟨x5, ex5, hf⟩ := qa_lt_e hf
  refine qi_iinc hC (n := 1) (v := x5) 3 rfl ((congrArg (fun q => v3 + q) kn_iconst_1).trans ex5.symm) (by decide) rfl dX7_placeBy_107 ?_
  refine qi_goto (tgt := 18) hC (by decide) dX7_placeBy_110 ?_
  obtain rfl := Option.some.inj hf
  refine qi_sub hC [2, 3, 1, 0] rfl ?_
  exact hK
set_option maxRecDepth 100000 in
set_option maxHeartbeats 4000000 in
theorem t_X7_placeBy_105 {X : qaX} {l : Launch} {Y : qaY} {fin : Int32} {m : qaM} (hC : QC X l Y cX7_placeBy RX7 6 1) (hQ : QRi X Y (some .int) m fin) {v1 : Int32} {v2 : Int32} {v3 : Int32} {z : ((Int32 × Int32) ⊕ (Int32))} (hf : b_X7_placeBy_105 m v1 v2 v3 = some z) (hK : (qa_K (fun s => QG X Y 6 m 18 [(0, .ref (Y.2.2.1 36)), (1, .int v1), (2, .int s.1), (3, .int s.2)] []) (qa_eq fin)) z) : QG X Y 6 m 105 [(0, .ref (Y.2.2.1 36)), (1, .int v1), (2, .int v2), (3, .int v3)] [] := by
  unfold b_X7_placeBy_105 at hf
  refine qi_iload_n hC 2 rfl rfl dX7_placeBy_105 ?_
  refine qi_sub hC [0, 1, 3] rfl ?_
  exact t_X7_placeBy_106 hC hQ hf hK
set_option maxRecDepth 100000 in
set_option maxHeartbeats 4000000 in
theorem t_X7_placeBy_101 {X : qaX} {l : Launch} {Y : qaY} {fin : Int32} {m : qaM} (hC : QC X l Y cX7_placeBy RX7 6 1) (hQ : QRi X Y (some .int) m fin) {v1 : Int32} {v3 : Int32} {z : ((Int32 × Int32) ⊕ (Int32))} (hf : b_X7_placeBy_101 m v1 v3 = some z) (hK : (qa_K (fun s => QG X Y 6 m 18 [(0, .ref (Y.2.2.1 36)), (1, .int v1), (2, .int s.1), (3, .int s.2)] []) (qa_eq fin)) z) : QG X Y 6 m 101 [(0, .ref (Y.2.2.1 36)), (1, .int v1), (3, .int v3)] [] := by
  unfold b_X7_placeBy_101 at hf
  refine qi_iload_n hC 2 rfl rfl dX7_placeBy_101 ?_
  refine qi_goto (tgt := 106) hC (by decide) dX7_placeBy_102 ?_
  exact t_X7_placeBy_106 hC hQ hf hK
set_option maxRecDepth 100000 in
set_option maxHeartbeats 4000000 in
theorem t_X7_placeBy_75 {X : qaX} {l : Launch} {Y : qaY} {fin : Int32} {m : qaM} (hC : QC X l Y cX7_placeBy RX7 6 1) (hQ : QRi X Y (some .int) m fin) {v1 : Int32} {v2 : Int32} {v3 : Int32} {v4 : Int32} {v5 : Int32} {z : ((Int32 × Int32) ⊕ (Int32))} (hf : b_X7_placeBy_75 m v1 v2 v3 v4 v5 = some z) (hK : (qa_K (fun s => QG X Y 6 m 18 [(0, .ref (Y.2.2.1 36)), (1, .int v1), (2, .int s.1), (3, .int s.2)] []) (qa_eq fin)) z) : QG X Y 6 m 75 [(0, .ref (Y.2.2.1 36)), (1, .int v1), (2, .int v2), (3, .int v3), (4, .int v4), (5, .int v5)] [] := by
  unfold b_X7_placeBy_75 at hf
  refine qi_iload_n hC 1 rfl rfl dX7_placeBy_75 ?_
  refine qi_iconst hC dX7_placeBy_76 kn_iconst_3 ?_
  refine qi_icmp_ne (tgt := 105) hC (by decide) dX7_placeBy_77 (fun h => ?_) (fun h => ?_)
  · replace hf := qa_if_f h hf
    refine qi_sub hC [0, 1, 2, 3] rfl ?_
    exact t_X7_placeBy_105 hC hQ hf hK
  · replace hf := qa_if_t h hf
    refine qi_aload_n hC 0 rfl rfl dX7_placeBy_80 ?_
    refine qi_getr hC kf_X7_16 sh_36 rfl dX7_placeBy_81 ?_
    refine qi_iload hC 4 rfl dX7_placeBy_84 ?_
    refine qi_iconst hC dX7_placeBy_86 kn_iconst_2 ?_
    refine qi_iadd hC dX7_placeBy_87 ?_
    obtain ⟨h6, hf⟩ := qa_ck_e hf
    refine qi_iald hC rfl sh_39 (qa_in_v h6) dX7_placeBy_88 ?_
    refine qi_aload_n hC 0 rfl rfl dX7_placeBy_89 ?_
    refine qi_getr hC kf_X7_16 sh_36 rfl dX7_placeBy_90 ?_
    refine qi_iload hC 5 rfl dX7_placeBy_93 ?_
    refine qi_iconst hC dX7_placeBy_95 kn_iconst_2 ?_
    refine qi_iadd hC dX7_placeBy_96 ?_
    obtain ⟨h7, hf⟩ := qa_ck_e hf
    refine qi_iald hC rfl sh_39 (qa_in_v h7) dX7_placeBy_97 ?_
    refine qi_icmp_le (tgt := 105) hC (by decide) dX7_placeBy_98 (fun h => ?_) (fun h => ?_)
    · replace hf := qa_if_t h hf
      refine qi_sub hC [0, 1, 2, 3] rfl ?_
      exact t_X7_placeBy_105 hC hQ hf hK
    · replace hf := qa_if_f h hf
      refine qi_sub hC [0, 1, 3] rfl ?_
      exact t_X7_placeBy_101 hC hQ hf hK
set_option maxRecDepth 100000 in
set_option maxHeartbeats 4000000 in
theorem t_X7_placeBy_18 {X : qaX} {l : Launch} {Y : qaY} {fin : Int32} {m : qaM} (hC : QC X l Y cX7_placeBy RX7 6 1) (hQ : QRi X Y (some .int) m fin) {v1 : Int32} {v2 : Int32} {v3 : Int32} {z : ((Int32 × Int32) ⊕ (Int32))} (hf : b_X7_placeBy_18 m v1 v2 v3 = some z) (hK : (qa_K (fun s => QG X Y 6 m 18 [(0, .ref (Y.2.2.1 36)), (1, .int v1), (2, .int s.1), (3, .int s.2)] []) (qa_eq fin)) z) : QG X Y 6 m 18 [(0, .ref (Y.2.2.1 36)), (1, .int v1), (2, .int v2), (3, .int v3)] [] := by
  unfold b_X7_placeBy_18 at hf
  refine qi_iload_n hC 3 rfl rfl dX7_placeBy_18 ?_
  refine qi_aload_n hC 0 rfl rfl dX7_placeBy_19 ?_
  refine qi_geti hC kf_X7_94 sh_36 rfl dX7_placeBy_20 ?_
  refine qi_icmp_ge (tgt := 113) hC (by decide) dX7_placeBy_23 (fun h => ?_) (fun h => ?_)
  · replace hf := qa_if_t h hf
    refine qi_iload_n hC 2 rfl rfl dX7_placeBy_113 ?_
    obtain ⟨z, rfl, hg⟩ := qa_inr_e hf; have hf := hg
    obtain rfl := Option.some.inj hf
    exact qi_ireti hC hQ (congrArg (fun w => (w, m)) hK) dX7_placeBy_114
  · replace hf := qa_if_f h hf
    refine qi_iload_n hC 1 rfl rfl dX7_placeBy_26 ?_
    refine qi_iconst hC dX7_placeBy_27 kn_iconst_1 ?_
    refine qi_icmp_le (tgt := 113) hC (by decide) dX7_placeBy_28 (fun h => ?_) (fun h => ?_)
    · replace hf := qa_if_t h hf
      refine qi_iload_n hC 2 rfl rfl dX7_placeBy_113 ?_
      obtain ⟨z, rfl, hg⟩ := qa_inr_e hf; have hf := hg
      obtain rfl := Option.some.inj hf
      exact qi_ireti hC hQ (congrArg (fun w => (w, m)) hK) dX7_placeBy_114
    · replace hf := qa_if_f h hf
      refine qi_bipush hC dX7_placeBy_31 kn_bipush_6 ?_
      refine qi_aload_n hC 0 rfl rfl dX7_placeBy_33 ?_
      refine qi_getr hC kf_X7_19 sh_36 rfl dX7_placeBy_34 ?_
      refine qi_iload_n hC 3 rfl rfl dX7_placeBy_37 ?_
      obtain ⟨h1, hf⟩ := qa_ck_e hf
      refine qi_iald hC rfl sh_40 (qa_in_v h1) dX7_placeBy_38 ?_
      refine qi_imul hC dX7_placeBy_39 ?_
      obtain ⟨x2, ex2, hf⟩ := qa_lt_e hf
      refine qi_nmi hC ex2 ?_
      refine qi_istore hC (by decide) rfl dX7_placeBy_40 ?_
      refine qi_bipush hC dX7_placeBy_42 kn_bipush_6 ?_
      refine qi_aload_n hC 1 rfl rfl dX7_placeBy_44 ?_
      refine qi_getr hC kf_X7_19 sh_36 rfl dX7_placeBy_45 ?_
      refine qi_iload_n hC 3 rfl rfl dX7_placeBy_48 ?_
      obtain ⟨h3, hf⟩ := qa_ck_e hf
      refine qi_iald hC rfl sh_40 (qa_in_v h3) dX7_placeBy_49 ?_
      refine qi_imul hC dX7_placeBy_50 ?_
      obtain ⟨x4, ex4, hf⟩ := qa_lt_e hf
      refine qi_nmi hC ex4 ?_
      refine qi_istore hC (by decide) rfl dX7_placeBy_51 ?_
      refine qi_iload_n hC 3 rfl rfl dX7_placeBy_53 ?_
      refine qi_iconst hC dX7_placeBy_54 kn_iconst_2 ?_
      refine qi_icmp_ne (tgt := 75) hC (by decide) dX7_placeBy_55 (fun h => ?_) (fun h => ?_)
      · replace hf := qa_if_f h hf
        refine qi_sub hC [2, 3, 4, 5, 1, 0] rfl ?_
        exact t_X7_placeBy_75 hC hQ hf hK
      · replace hf := qa_if_t h hf
        refine qi_aload_n hC 2 rfl rfl dX7_placeBy_58 ?_
        refine qi_getr hC kf_X7_16 sh_36 rfl dX7_placeBy_59 ?_
        refine qi_iload hC 1 rfl dX7_placeBy_62 ?_
        obtain ⟨h8, hf⟩ := qa_ck_e hf
        refine qi_iald hC rfl sh_39 (qa_in_v h8) dX7_placeBy_64 ?_
        refine qi_aload_n hC 2 rfl rfl dX7_placeBy_65 ?_
        refine qi_getr hC kf_X7_16 sh_36 rfl dX7_placeBy_66 ?_
        refine qi_iload hC 0 rfl dX7_placeBy_69 ?_
        obtain ⟨h9, hf⟩ := qa_ck_e hf
        refine qi_iald hC rfl sh_39 (qa_in_v h9) dX7_placeBy_71 ?_
        refine qi_icmp_lt (tgt := 101) hC (by decide) dX7_placeBy_72 (fun h => ?_) (fun h => ?_)
        · replace hf := qa_if_t h hf
          refine qi_sub hC [2, 3, 5] rfl ?_
          exact t_X7_placeBy_101 hC hQ hf hK
        · replace hf := qa_if_f h hf
          refine qi_sub hC [2, 3, 4, 5, 1, 0] rfl ?_
          exact t_X7_placeBy_75 hC hQ hf hK
set_option maxRecDepth 100000 in
set_option maxHeartbeats 4000000 in
theorem tn_X7_placeBy_18 {X : qaX} {l : Launch} {Y : qaY} {fin : Int32} {m : qaM} (hC : QC X l Y cX7_placeBy RX7 6 1) (hQ : QRi X Y (some .int) m fin) {v1 : Int32} {z : (Int32)} (hK : (qa_eq fin) z) : ∀ (n : Nat) (s : Int32 × Int32), qa_lp (fun s => b_X7_placeBy_18 m v1 s.1 s.2) n s = some z → QG X Y 6 m 18 [(0, .ref (Y.2.2.1 36)), (1, .int v1), (2, .int s.1), (3, .int s.2)] [] := by
  intro n
  induction n with
  | zero => intro s hf; cases hf
  | succ n ih =>
    intro s hf
    obtain ⟨y, hy, hf⟩ := qa_lp_e hf
    refine t_X7_placeBy_18 hC hQ hy ?_
    rcases hf with ⟨s', rfl, hf⟩ | rfl
    · exact ih s' hf
    · exact hK
set_option maxRecDepth 100000 in
set_option maxHeartbeats 4000000 in
theorem tl_X7_placeBy_18 {X : qaX} {l : Launch} {Y : qaY} {fin : Int32} {m : qaM} (hC : QC X l Y cX7_placeBy RX7 6 1) (hQ : QRi X Y (some .int) m fin) {v1 : Int32} {v2 : Int32} {v3 : Int32} {z : (Int32)} (hf : lp_X7_placeBy_18 m v1 v2 v3 = some z) (hK : (qa_eq fin) z) : QG X Y 6 m 18 [(0, .ref (Y.2.2.1 36)), (1, .int v1), (2, .int v2), (3, .int v3)] [] :=
  tn_X7_placeBy_18 hC hQ hK qa_F (v2, v3) hf
set_option maxRecDepth 100000 in
set_option maxHeartbeats 4000000 in
theorem t_X7_placeBy_15 {X : qaX} {l : Launch} {Y : qaY} {fin : Int32} {m : qaM} (hC : QC X l Y cX7_placeBy RX7 6 1) (hQ : QRi X Y (some .int) m fin) {v1 : Int32} {s0 : Int32} {z : (Int32)} (hf : b_X7_placeBy_15 m v1 s0 = some z) (hK : (qa_eq fin) z) : QG X Y 6 m 15 [(0, .ref (Y.2.2.1 36)), (1, .int v1)] [.int s0] := by
  unfold b_X7_placeBy_15 at hf
  refine qi_istore_n hC rfl (by decide) rfl dX7_placeBy_15 ?_
  refine qi_iconst hC dX7_placeBy_16 kn_iconst_1 ?_
  refine qi_istore_n hC rfl (by decide) rfl dX7_placeBy_17 ?_
  refine qi_sub hC [2, 3, 1, 0] rfl ?_
  exact tl_X7_placeBy_18 hC hQ hf hK
set_option maxRecDepth 100000 in
set_option maxHeartbeats 4000000 in
theorem c_X7_placeBy (l : Launch) (Y : qaY) (m : qaM) (v1 : Int32) (q : Int32) (hf : f_X7_placeBy m v1 = some q) : qaMi l Y yX7_placeBy cX7_placeBy 6 (some .int) 1 [.ref (Y.2.2.1 36), .int v1] m m q := by
  refine qa_enti (by decide +kernel) (Nat.le_of_ble_eq_true rfl) fun X hC hQ => ?_
  have hK : qa_eq q q := rfl
  unfold f_X7_placeBy at hf
  refine qi_iload_n hC 1 rfl rfl dX7_placeBy_0 ?_
  refine qi_iconst hC dX7_placeBy_1 kn_iconst_1 ?_
  refine qi_icmp_ne (tgt := 14) hC (by decide) dX7_placeBy_2 (fun h => ?_) (fun h => ?_)
  · replace hf := qa_if_f h hf
    refine qi_iconst hC dX7_placeBy_14 kn_iconst_0 ?_
    exact t_X7_placeBy_15 hC hQ hf hK
  · replace hf := qa_if_t h hf
    refine qi_aload_n hC 0 rfl rfl dX7_placeBy_5 ?_
    refine qi_geti hC kf_X7_94 sh_36 rfl dX7_placeBy_6 ?_
    refine qi_iconst hC dX7_placeBy_9 kn_iconst_1 ?_
    refine qi_isub hC dX7_placeBy_10 ?_
    refine qi_goto (tgt := 15) hC (by decide) dX7_placeBy_11 ?_
    exact t_X7_placeBy_15 hC hQ hf hK
set_option maxRecDepth 100000 in
set_option maxHeartbeats 4000000 in
theorem t_X7_placeOf_2 {X : qaX} {l : Launch} {Y : qaY} {fin : Int32} {m : qaM} (hC : QC X l Y cX7_placeOf RX7 3 1) (hQ : QRi X Y (some .int) m fin) {v1 : Int32} {v2 : Int32} {z : ((Int32) ⊕ (Int32))} (hf : b_X7_placeOf_2 m v1 v2 = some z) (hK : (qa_K (fun s => QG X Y 3 m 2 [(0, .ref (Y.2.2.1 36)), (1, .int v1), (2, .int s)] []) (qa_eq fin)) z) : QG X Y 3 m 2 [(0, .ref (Y.2.2.1 36)), (1, .int v1), (2, .int v2)] [] := by
  unfold b_X7_placeOf_2 at hf
  refine qi_iload_n hC 2 rfl rfl dX7_placeOf_2 ?_
  refine qi_aload_n hC 0 rfl rfl dX7_placeOf_3 ?_
  refine qi_geti hC kf_X7_94 sh_36 rfl dX7_placeOf_4 ?_
  refine qi_icmp_ge (tgt := 28) hC (by decide) dX7_placeOf_7 (fun h => ?_) (fun h => ?_)
  · replace hf := qa_if_t h hf
    refine qi_iconst hC dX7_placeOf_28 kn_iconst_m1 ?_
    obtain ⟨z, rfl, hg⟩ := qa_inr_e hf; have hf := hg
    obtain rfl := Option.some.inj hf
    exact qi_ireti hC hQ (congrArg (fun w => (w, m)) hK) dX7_placeOf_29
  · replace hf := qa_if_f h hf
    refine qi_aload_n hC 0 rfl rfl dX7_placeOf_10 ?_
    refine qi_getr hC kf_X7_19 sh_36 rfl dX7_placeOf_11 ?_
    refine qi_iload_n hC 2 rfl rfl dX7_placeOf_14 ?_
    obtain ⟨h1, hf⟩ := qa_ck_e hf
    refine qi_iald hC rfl sh_40 (qa_in_v h1) dX7_placeOf_15 ?_
    refine qi_iload_n hC 1 rfl rfl dX7_placeOf_16 ?_
    refine qi_icmp_ne (tgt := 22) hC (by decide) dX7_placeOf_17 (fun h => ?_) (fun h => ?_)
    · replace hf := qa_if_f h hf
      obtain ⟨x2, ex2, hf⟩ := qa_lt_e hf
      refine qi_iinc hC (n := 1) (v := x2) 2 rfl ((congrArg (fun q => v2 + q) kn_iconst_1).trans ex2.symm) (by decide) rfl dX7_placeOf_22 ?_
      refine qi_goto (tgt := 2) hC (by decide) dX7_placeOf_25 ?_
      obtain rfl := Option.some.inj hf
      refine qi_sub hC [1, 2, 0] rfl ?_
      exact hK
    · replace hf := qa_if_t h hf
      refine qi_iload_n hC 2 rfl rfl dX7_placeOf_20 ?_
      obtain ⟨z, rfl, hg⟩ := qa_inr_e hf; have hf := hg
      obtain rfl := Option.some.inj hf
      exact qi_ireti hC hQ (congrArg (fun w => (w, m)) hK) dX7_placeOf_21
set_option maxRecDepth 100000 in
set_option maxHeartbeats 4000000 in
theorem tn_X7_placeOf_2 {X : qaX} {l : Launch} {Y : qaY} {fin : Int32} {m : qaM} (hC : QC X l Y cX7_placeOf RX7 3 1) (hQ : QRi X Y (some .int) m fin) {v1 : Int32} {z : (Int32)} (hK : (qa_eq fin) z) : ∀ (n : Nat) (s : Int32), qa_lp (fun s => b_X7_placeOf_2 m v1 s) n s = some z → QG X Y 3 m 2 [(0, .ref (Y.2.2.1 36)), (1, .int v1), (2, .int s)] [] := by
  intro n
  induction n with
  | zero => intro s hf; cases hf
  | succ n ih =>
    intro s hf
    obtain ⟨y, hy, hf⟩ := qa_lp_e hf
    refine t_X7_placeOf_2 hC hQ hy ?_
    rcases hf with ⟨s', rfl, hf⟩ | rfl
    · exact ih s' hf
    · exact hK
set_option maxRecDepth 100000 in
set_option maxHeartbeats 4000000 in
theorem tl_X7_placeOf_2 {X : qaX} {l : Launch} {Y : qaY} {fin : Int32} {m : qaM} (hC : QC X l Y cX7_placeOf RX7 3 1) (hQ : QRi X Y (some .int) m fin) {v1 : Int32} {v2 : Int32} {z : (Int32)} (hf : lp_X7_placeOf_2 m v1 v2 = some z) (hK : (qa_eq fin) z) : QG X Y 3 m 2 [(0, .ref (Y.2.2.1 36)), (1, .int v1), (2, .int v2)] [] :=
  tn_X7_placeOf_2 hC hQ hK qa_F v2 hf
set_option maxRecDepth 100000 in
set_option maxHeartbeats 4000000 in
theorem c_X7_placeOf (l : Launch) (Y : qaY) (m : qaM) (v1 : Int32) (q : Int32) (hf : f_X7_placeOf m v1 = some q) : qaMi l Y yX7_placeOf cX7_placeOf 3 (some .int) 1 [.ref (Y.2.2.1 36), .int v1] m m q := by
  refine qa_enti (by decide +kernel) (Nat.le_of_ble_eq_true rfl) fun X hC hQ => ?_
  have hK : qa_eq q q := rfl
  unfold f_X7_placeOf at hf
  refine qi_iconst hC dX7_placeOf_0 kn_iconst_0 ?_
  refine qi_istore_n hC rfl (by decide) rfl dX7_placeOf_1 ?_
  refine qi_sub hC [1, 2, 0] rfl ?_
  exact tl_X7_placeOf_2 hC hQ hf hK
set_option maxRecDepth 100000 in
set_option maxHeartbeats 4000000 in
theorem t_X7_buy_99 {X : qaX} {l : Launch} {Y : qaY} {fin : Int32 × qaM} (hC : QC X l Y cX7_buy RX7 4 3) (hQ : QRi X Y (some .int) fin.2 fin.1) {m : qaM} {z : (Int32 × qaM)} (hf : b_X7_buy_99 m = some z) (hK : (qa_eq fin) z) : QG X Y 4 m 99 [(0, .ref (Y.2.2.1 36))] [] := by
  unfold b_X7_buy_99 at hf
  refine qi_aload_n hC 0 rfl rfl dX7_buy_99 ?_
  refine qi_aload_n hC 0 rfl rfl dX7_buy_100 ?_
  refine qi_geti hC kf_X7_87 sh_36 rfl dX7_buy_101 ?_
  obtain ⟨q7, hq7, hf⟩ := Option.bind_eq_some_iff.mp hf
  refine qi_callVv hC (as := [.int (m 36 0)]) (c_X7_lays _ _ _ _ _ hq7) kl_X7_184 sh_36 kc_X7_lays rfl rfl (by decide) (by decide) (Nat.le_of_ble_eq_true rfl) dX7_buy_104 ?_
  refine qi_aload_n hC 0 rfl rfl dX7_buy_107 ?_
  refine qi_dup hC rfl dX7_buy_108 ?_
  refine qi_geti hC kf_X7_87 sh_36 rfl dX7_buy_109 ?_
  refine qi_iconst hC dX7_buy_112 kn_iconst_1 ?_
  refine qi_iadd hC dX7_buy_113 ?_
  obtain ⟨m8, em8, hf⟩ := qa_lt_e hf
  refine qi_puti hC em8 kp_X7_87 sh_36 rfl rfl rfl dX7_buy_114 ?_
  refine qi_aload_n hC 0 rfl rfl dX7_buy_117 ?_
  refine qi_geti hC kf_X7_87 sh_36 rfl dX7_buy_118 ?_
  refine qi_iconst hC dX7_buy_121 kn_iconst_1 ?_
  refine qi_isub hC dX7_buy_122 ?_
  obtain rfl := Option.some.inj hf
  exact qi_ireti hC hQ hK dX7_buy_123
set_option maxRecDepth 100000 in
set_option maxHeartbeats 4000000 in
theorem t_X7_buy_92 {X : qaX} {l : Launch} {Y : qaY} {fin : Int32 × qaM} (hC : QC X l Y cX7_buy RX7 4 3) (hQ : QRi X Y (some .int) fin.2 fin.1) {m : qaM} {v2 : Int32} {v3 : Int32} {s1 : Int32} {s2 : Int32} {z : ((qaM × Int32) ⊕ (Int32 × qaM))} (hf : b_X7_buy_92 m v2 v3 s1 s2 = some z) (hK : (qa_K (fun s => QG X Y 4 s.1 64 [(0, .ref (Y.2.2.1 36)), (2, .int v2), (3, .int s.2)] []) (qa_eq fin)) z) : QG X Y 4 m 92 [(0, .ref (Y.2.2.1 36)), (2, .int v2), (3, .int v3)] [.int s2, .int s1, .ref (Y.2.2.1 39)] := by
  unfold b_X7_buy_92 at hf
  obtain ⟨h9, hf⟩ := qa_ck_e hf
  obtain ⟨m10, em10, hf⟩ := qa_lt_e hf
  refine qi_iast hC rfl em10 sh_39 (qa_in_v h9) dX7_buy_92 ?_
  obtain ⟨x11, ex11, hf⟩ := qa_lt_e hf
  refine qi_iinc hC (n := 1) (v := x11) 2 rfl ((congrArg (fun q => v3 + q) kn_iconst_1).trans ex11.symm) (by decide) rfl dX7_buy_93 ?_
  refine qi_goto (tgt := 64) hC (by decide) dX7_buy_96 ?_
  obtain rfl := Option.some.inj hf
  refine qi_sub hC [1, 2, 0] rfl ?_
  exact hK
set_option maxRecDepth 100000 in
set_option maxHeartbeats 4000000 in
theorem t_X7_buy_64 {X : qaX} {l : Launch} {Y : qaY} {fin : Int32 × qaM} (hC : QC X l Y cX7_buy RX7 4 3) (hQ : QRi X Y (some .int) fin.2 fin.1) {m : qaM} {v2 : Int32} {v3 : Int32} {z : ((qaM × Int32) ⊕ (Int32 × qaM))} (hf : b_X7_buy_64 m v2 v3 = some z) (hK : (qa_K (fun s => QG X Y 4 s.1 64 [(0, .ref (Y.2.2.1 36)), (2, .int v2), (3, .int s.2)] []) (qa_eq fin)) z) : QG X Y 4 m 64 [(0, .ref (Y.2.2.1 36)), (2, .int v2), (3, .int v3)] [] := by
  unfold b_X7_buy_64 at hf
  refine qi_iload_n hC 2 rfl rfl dX7_buy_64 ?_
  refine qi_bipush hC dX7_buy_65 kn_bipush_6 ?_
  refine qi_icmp_ge (tgt := 99) hC (by decide) dX7_buy_67 (fun h => ?_) (fun h => ?_)
  · replace hf := qa_if_t h hf
    obtain ⟨z, rfl, hg⟩ := qa_inr_e hf; have hf := hg
    refine qi_sub hC [0] rfl ?_
    exact t_X7_buy_99 hC hQ hf hK
  · replace hf := qa_if_f h hf
    refine qi_aload_n hC 0 rfl rfl dX7_buy_70 ?_
    refine qi_getr hC kf_X7_16 sh_36 rfl dX7_buy_71 ?_
    refine qi_bipush hC dX7_buy_74 kn_bipush_6 ?_
    refine qi_aload_n hC 0 rfl rfl dX7_buy_76 ?_
    refine qi_geti hC kf_X7_87 sh_36 rfl dX7_buy_77 ?_
    refine qi_imul hC dX7_buy_80 ?_
    refine qi_iload_n hC 2 rfl rfl dX7_buy_81 ?_
    refine qi_iadd hC dX7_buy_82 ?_
    refine qi_iload_n hC 2 rfl rfl dX7_buy_83 ?_
    refine qi_if_ne (tgt := 91) hC (by decide) dX7_buy_84 (fun h => ?_) (fun h => ?_)
    · replace hf := qa_if_f h hf
      refine qi_iconst hC dX7_buy_91 kn_iconst_0 ?_
      exact t_X7_buy_92 hC hQ hf hK
    · replace hf := qa_if_t h hf
      refine qi_iload_n hC 1 rfl rfl dX7_buy_87 ?_
      refine qi_goto (tgt := 92) hC (by decide) dX7_buy_88 ?_
      exact t_X7_buy_92 hC hQ hf hK
set_option maxRecDepth 100000 in
set_option maxHeartbeats 4000000 in
theorem tn_X7_buy_64 {X : qaX} {l : Launch} {Y : qaY} {fin : Int32 × qaM} (hC : QC X l Y cX7_buy RX7 4 3) (hQ : QRi X Y (some .int) fin.2 fin.1) {v2 : Int32} {z : (Int32 × qaM)} (hK : (qa_eq fin) z) : ∀ (n : Nat) (s : qaM × Int32), qa_lp (fun s => b_X7_buy_64 s.1 v2 s.2) n s = some z → QG X Y 4 s.1 64 [(0, .ref (Y.2.2.1 36)), (2, .int v2), (3, .int s.2)] [] := by
  intro n
  induction n with
  | zero => intro s hf; cases hf
  | succ n ih =>
    intro s hf
    obtain ⟨y, hy, hf⟩ := qa_lp_e hf
    refine t_X7_buy_64 hC hQ hy ?_
    rcases hf with ⟨s', rfl, hf⟩ | rfl
    · exact ih s' hf
    · exact hK
set_option maxRecDepth 100000 in
set_option maxHeartbeats 4000000 in
theorem tl_X7_buy_64 {X : qaX} {l : Launch} {Y : qaY} {fin : Int32 × qaM} (hC : QC X l Y cX7_buy RX7 4 3) (hQ : QRi X Y (some .int) fin.2 fin.1) {m : qaM} {v2 : Int32} {v3 : Int32} {z : (Int32 × qaM)} (hf : lp_X7_buy_64 m v2 v3 = some z) (hK : (qa_eq fin) z) : QG X Y 4 m 64 [(0, .ref (Y.2.2.1 36)), (2, .int v2), (3, .int v3)] [] :=
  tn_X7_buy_64 hC hQ hK qa_F (m, v3) hf
set_option maxRecDepth 100000 in
set_option maxHeartbeats 4000000 in
theorem c_X7_buy (l : Launch) (Y : qaY) (m : qaM) (v1 : Int32) (v2 : Int32) (q : Int32 × qaM) (hf : f_X7_buy m v1 v2 = some q) : qaMi l Y yX7_buy cX7_buy 4 (some .int) 3 [.ref (Y.2.2.1 36), .int v1, .int v2] m q.2 q.1 := by
  refine qa_enti (by decide +kernel) (Nat.le_of_ble_eq_true rfl) fun X hC hQ => ?_
  have hK : qa_eq q q := rfl
  unfold f_X7_buy at hf
  refine qi_iload_n hC 1 rfl rfl dX7_buy_0 ?_
  refine qi_iconst hC dX7_buy_1 kn_iconst_0 ?_
  refine qi_bipush hC dX7_buy_2 kn_bipush_59 ?_
  obtain ⟨q1, hq1, hf⟩ := Option.bind_eq_some_iff.mp hf
  refine qi_callSi hC (as := [.int v1, .int (0 : Int32), .int (59 : Int32)]) (c_X7_in _ _ _ _ _ _ _ hq1) kl_X7_90 kc_X7_in rfl rfl (by decide) (by decide) (Nat.le_of_ble_eq_true rfl) dX7_buy_4 ?_
  refine qi_if_eq (tgt := 21) hC (by decide) dX7_buy_7 (fun h => ?_) (fun h => ?_)
  · replace hf := qa_if_t h hf
    refine qi_bipush hC dX7_buy_21 kn_bipush_m2 ?_
    obtain rfl := Option.some.inj hf
    exact qi_ireti hC hQ hK dX7_buy_23
  · replace hf := qa_if_f h hf
    refine qi_iload_n hC 2 rfl rfl dX7_buy_10 ?_
    refine qi_iconst hC dX7_buy_11 kn_iconst_0 ?_
    refine qi_sipush hC dX7_buy_12 kn_sipush_999 ?_
    obtain ⟨q2, hq2, hf⟩ := Option.bind_eq_some_iff.mp hf
    refine qi_callSi hC (as := [.int v2, .int (0 : Int32), .int (999 : Int32)]) (c_X7_in _ _ _ _ _ _ _ hq2) kl_X7_90 kc_X7_in rfl rfl (by decide) (by decide) (Nat.le_of_ble_eq_true rfl) dX7_buy_15 ?_
    refine qi_if_ne (tgt := 24) hC (by decide) dX7_buy_18 (fun h => ?_) (fun h => ?_)
    · replace hf := qa_if_f h hf
      refine qi_aload_n hC 0 rfl rfl dX7_buy_24 ?_
      refine qi_geti hC kf_X7_87 sh_36 rfl dX7_buy_25 ?_
      refine qi_bipush hC dX7_buy_28 kn_bipush_8 ?_
      refine qi_icmp_ne (tgt := 36) hC (by decide) dX7_buy_30 (fun h => ?_) (fun h => ?_)
      · replace hf := qa_if_f h hf
        refine qi_aload_n hC 0 rfl rfl dX7_buy_36 ?_
        refine qi_getr hC kf_X7_7 sh_36 rfl dX7_buy_37 ?_
        refine qi_aload_n hC 0 rfl rfl dX7_buy_40 ?_
        refine qi_geti hC kf_X7_87 sh_36 rfl dX7_buy_41 ?_
        refine qi_iload_n hC 1 rfl rfl dX7_buy_44 ?_
        refine qi_bipush hC dX7_buy_45 kn_bipush_10 ?_
        refine qi_idiv hC (by decide) dX7_buy_47 ?_
        obtain ⟨h3, hf⟩ := qa_ck_e hf
        obtain ⟨m4, em4, hf⟩ := qa_lt_e hf
        refine qi_iast hC rfl em4 sh_37 (qa_in_v h3) dX7_buy_48 ?_
        refine qi_aload_n hC 0 rfl rfl dX7_buy_49 ?_
        refine qi_getr hC kf_X7_13 sh_36 rfl dX7_buy_50 ?_
        refine qi_aload_n hC 0 rfl rfl dX7_buy_53 ?_
        refine qi_geti hC kf_X7_87 sh_36 rfl dX7_buy_54 ?_
        refine qi_iload_n hC 1 rfl rfl dX7_buy_57 ?_
        refine qi_bipush hC dX7_buy_58 kn_bipush_10 ?_
        refine qi_irem hC (by decide) dX7_buy_60 ?_
        obtain ⟨h5, hf⟩ := qa_ck_e hf
        obtain ⟨m6, em6, hf⟩ := qa_lt_e hf
        refine qi_iast hC rfl em6 sh_38 (qa_in_v h5) dX7_buy_61 ?_
        refine qi_iconst hC dX7_buy_62 kn_iconst_0 ?_
        refine qi_istore_n hC rfl (by decide) rfl dX7_buy_63 ?_
        refine qi_sub hC [1, 3, 0] rfl ?_
        exact tl_X7_buy_64 hC hQ hf hK
      · replace hf := qa_if_t h hf
        refine qi_bipush hC dX7_buy_33 kn_bipush_m4 ?_
        obtain rfl := Option.some.inj hf
        exact qi_ireti hC hQ hK dX7_buy_35
    · replace hf := qa_if_t h hf
      refine qi_bipush hC dX7_buy_21 kn_bipush_m2 ?_
      obtain rfl := Option.some.inj hf
      exact qi_ireti hC hQ hK dX7_buy_23
set_option maxRecDepth 100000 in
set_option maxHeartbeats 4000000 in
theorem c_X7_lastsOf (l : Launch) (Y : qaY) (m : qaM) (v1 : Int32) (q : Int32) (hf : f_X7_lastsOf m v1 = some q) : qaMi l Y yX7_lastsOf cX7_lastsOf 3 (some .int) 1 [.ref (Y.2.2.1 36), .int v1] m m q := by
  refine qa_enti (by decide +kernel) (Nat.le_of_ble_eq_true rfl) fun X hC hQ => ?_
  have hK : qa_eq q q := rfl
  unfold f_X7_lastsOf at hf
  refine qi_aload_n hC 0 rfl rfl dX7_lastsOf_0 ?_
  refine qi_getr hC kf_X7_13 sh_36 rfl dX7_lastsOf_1 ?_
  refine qi_iload_n hC 1 rfl rfl dX7_lastsOf_4 ?_
  obtain ⟨h1, hf⟩ := qa_ck_e hf
  refine qi_iald hC rfl sh_38 (qa_in_v h1) dX7_lastsOf_5 ?_
  obtain ⟨x2, ex2, hf⟩ := qa_lt_e hf
  refine qi_nmi hC ex2 ?_
  refine qi_istore_n hC rfl (by decide) rfl dX7_lastsOf_6 ?_
  refine qi_aload_n hC 1 rfl rfl dX7_lastsOf_7 ?_
  refine qi_getr hC kf_X7_7 sh_36 rfl dX7_lastsOf_8 ?_
  refine qi_iload_n hC 2 rfl rfl dX7_lastsOf_11 ?_
  obtain ⟨h3, hf⟩ := qa_ck_e hf
  refine qi_iald hC rfl sh_37 (qa_in_v h3) dX7_lastsOf_12 ?_
  obtain ⟨x4, ex4, hf⟩ := qa_lt_e hf
  refine qi_nmi hC ex4 ?_
  by_cases h5 : x4 = (2 : Int32)
  · replace hf := qa_if_t h5 hf
    refine qi_tabIn (tgt := 44) (off := 31) hC dX7_lastsOf_13 (by rw [h5] <;> decide) (by rw [h5] <;> decide) (by rw [h5] <;> decide) (by decide) ?_
    refine qi_sipush hC dX7_lastsOf_44 kn_sipush_400 ?_
    refine qi_bipush hC dX7_lastsOf_47 kn_bipush_20 ?_
    refine qi_iload_n hC 0 rfl rfl dX7_lastsOf_49 ?_
    refine qi_imul hC dX7_lastsOf_50 ?_
    refine qi_isub hC dX7_lastsOf_51 ?_
    obtain rfl := Option.some.inj hf
    exact qi_ireti hC hQ (congrArg (fun w => (w, m)) hK) dX7_lastsOf_52
  replace hf := qa_if_f h5 hf
  by_cases h6 : x4 = (3 : Int32)
  · replace hf := qa_if_t h6 hf
    refine qi_tabIn (tgt := 53) (off := 40) hC dX7_lastsOf_13 (by rw [h6] <;> decide) (by rw [h6] <;> decide) (by rw [h6] <;> decide) (by decide) ?_
    refine qi_sipush hC dX7_lastsOf_53 kn_sipush_400 ?_
    refine qi_bipush hC dX7_lastsOf_56 kn_bipush_10 ?_
    refine qi_iload_n hC 0 rfl rfl dX7_lastsOf_58 ?_
    refine qi_imul hC dX7_lastsOf_59 ?_
    refine qi_iadd hC dX7_lastsOf_60 ?_
    obtain rfl := Option.some.inj hf
    exact qi_ireti hC hQ (congrArg (fun w => (w, m)) hK) dX7_lastsOf_61
  replace hf := qa_if_f h6 hf
  by_cases h7 : x4 = (4 : Int32)
  · replace hf := qa_if_t h7 hf
    refine qi_tabIn (tgt := 62) (off := 49) hC dX7_lastsOf_13 (by rw [h7] <;> decide) (by rw [h7] <;> decide) (by rw [h7] <;> decide) (by decide) ?_
    refine qi_sipush hC dX7_lastsOf_62 kn_sipush_500 ?_
    refine qi_bipush hC dX7_lastsOf_65 kn_bipush_20 ?_
    refine qi_iload_n hC 0 rfl rfl dX7_lastsOf_67 ?_
    refine qi_imul hC dX7_lastsOf_68 ?_
    refine qi_isub hC dX7_lastsOf_69 ?_
    obtain rfl := Option.some.inj hf
    exact qi_ireti hC hQ (congrArg (fun w => (w, m)) hK) dX7_lastsOf_70
  replace hf := qa_if_f h7 hf
  by_cases h8 : x4 = (5 : Int32)
  · replace hf := qa_if_t h8 hf
    refine qi_tabIn (tgt := 71) (off := 58) hC dX7_lastsOf_13 (by rw [h8] <;> decide) (by rw [h8] <;> decide) (by rw [h8] <;> decide) (by decide) ?_
    refine qi_sipush hC dX7_lastsOf_71 kn_sipush_150 ?_
    refine qi_bipush hC dX7_lastsOf_74 kn_bipush_10 ?_
    refine qi_iload_n hC 0 rfl rfl dX7_lastsOf_76 ?_
    refine qi_imul hC dX7_lastsOf_77 ?_
    refine qi_iadd hC dX7_lastsOf_78 ?_
    obtain rfl := Option.some.inj hf
    exact qi_ireti hC hQ (congrArg (fun w => (w, m)) hK) dX7_lastsOf_79
  replace hf := qa_if_f h8 hf
  refine qi_tabOut (tgt := 80) hC dX7_lastsOf_13 (by have nh5 := lv_neT (a := 2) h5 (by decide); have nh6 := lv_neT (a := 3) h6 (by decide); have nh7 := lv_neT (a := 4) h7 (by decide); have nh8 := lv_neT (a := 5) h8 (by decide); omega) (by decide) ?_
  refine qi_sipush hC dX7_lastsOf_80 kn_sipush_400 ?_
  obtain rfl := Option.some.inj hf
  exact qi_ireti hC hQ (congrArg (fun w => (w, m)) hK) dX7_lastsOf_83
set_option maxRecDepth 100000 in
set_option maxHeartbeats 4000000 in
theorem t_X7_wearsOf_156 {X : qaX} {l : Launch} {Y : qaY} {fin : Int32 × qaM} (hC : QC X l Y cX7_wearsOf RX7 5 4) (hQ : QRi X Y (some .int) fin.2 fin.1) {m : qaM} {v4 : Int32} {z : (Int32 × qaM)} (hf : b_X7_wearsOf_156 m v4 = some z) (hK : (qa_eq fin) z) : QG X Y 5 m 156 [(4, .int v4)] [] := by
  unfold b_X7_wearsOf_156 at hf
  refine qi_iload hC 0 rfl dX7_wearsOf_156 ?_
  refine qi_if_ge (tgt := 165) hC (by decide) dX7_wearsOf_158 (fun h => ?_) (fun h => ?_)
  · replace hf := qa_if_t h hf
    refine qi_iload hC 0 rfl dX7_wearsOf_165 ?_
    obtain rfl := Option.some.inj hf
    exact qi_ireti hC hQ hK dX7_wearsOf_167
  · replace hf := qa_if_f h hf
    refine qi_iconst hC dX7_wearsOf_161 kn_iconst_0 ?_
    refine qi_goto (tgt := 167) hC (by decide) dX7_wearsOf_162 ?_
    obtain rfl := Option.some.inj hf
    exact qi_ireti hC hQ hK dX7_wearsOf_167
set_option maxRecDepth 100000 in
set_option maxHeartbeats 4000000 in
theorem t_X7_wearsOf_84 {X : qaX} {l : Launch} {Y : qaY} {fin : Int32 × qaM} (hC : QC X l Y cX7_wearsOf RX7 5 4) (hQ : QRi X Y (some .int) fin.2 fin.1) {m : qaM} {v3 : Int32} {v4 : Int32} {z : (Int32 × qaM)} (hf : b_X7_wearsOf_84 m v3 v4 = some z) (hK : (qa_eq fin) z) : QG X Y 5 m 84 [(3, .int v3), (4, .int v4)] [] := by
  unfold b_X7_wearsOf_84 at hf
  refine qi_iload hC 1 rfl dX7_wearsOf_84 ?_
  refine qi_iload_n hC 0 rfl rfl dX7_wearsOf_86 ?_
  refine qi_iconst hC dX7_wearsOf_87 kn_iconst_2 ?_
  refine qi_idiv hC (by decide) dX7_wearsOf_88 ?_
  refine qi_isub hC dX7_wearsOf_89 ?_
  obtain ⟨x11, ex11, hf⟩ := qa_lt_e hf
  refine qi_nmi hC ex11 ?_
  refine qi_istore hC (by decide) rfl dX7_wearsOf_90 ?_
  refine qi_goto (tgt := 156) hC (by decide) dX7_wearsOf_92 ?_
  refine qi_sub hC [0] rfl ?_
  exact t_X7_wearsOf_156 hC hQ hf hK
set_option maxRecDepth 100000 in
set_option maxHeartbeats 4000000 in
theorem t_X7_wearsOf_114 {X : qaX} {l : Launch} {Y : qaY} {fin : Int32 × qaM} (hC : QC X l Y cX7_wearsOf RX7 5 4) (hQ : QRi X Y (some .int) fin.2 fin.1) {m : qaM} {s0 : Int32} {s1 : Int32} {z : (Int32 × qaM)} (hf : b_X7_wearsOf_114 m s0 s1 = some z) (hK : (qa_eq fin) z) : QG X Y 5 m 114 [] [.int s1, .int s0] := by
  unfold b_X7_wearsOf_114 at hf
  refine qi_iadd hC dX7_wearsOf_114 ?_
  obtain ⟨x14, ex14, hf⟩ := qa_lt_e hf
  refine qi_nmi hC ex14 ?_
  refine qi_istore hC (by decide) rfl dX7_wearsOf_115 ?_
  refine qi_goto (tgt := 156) hC (by decide) dX7_wearsOf_117 ?_
  exact t_X7_wearsOf_156 hC hQ hf hK
set_option maxRecDepth 100000 in
set_option maxHeartbeats 4000000 in
theorem t_X7_wearsOf_141 {X : qaX} {l : Launch} {Y : qaY} {fin : Int32 × qaM} (hC : QC X l Y cX7_wearsOf RX7 5 4) (hQ : QRi X Y (some .int) fin.2 fin.1) {m : qaM} {s0 : Int32} {s1 : Int32} {z : (Int32 × qaM)} (hf : b_X7_wearsOf_141 m s0 s1 = some z) (hK : (qa_eq fin) z) : QG X Y 5 m 141 [] [.int s1, .int s0] := by
  unfold b_X7_wearsOf_141 at hf
  refine qi_iadd hC dX7_wearsOf_141 ?_
  obtain ⟨x18, ex18, hf⟩ := qa_lt_e hf
  refine qi_nmi hC ex18 ?_
  refine qi_istore hC (by decide) rfl dX7_wearsOf_142 ?_
  refine qi_goto (tgt := 156) hC (by decide) dX7_wearsOf_144 ?_
  exact t_X7_wearsOf_156 hC hQ hf hK
set_option maxRecDepth 100000 in
set_option maxHeartbeats 4000000 in
theorem c_X7_wearsOf (l : Launch) (Y : qaY) (m : qaM) (v1 : Int32) (q : Int32 × qaM) (hf : f_X7_wearsOf m v1 = some q) : qaMi l Y yX7_wearsOf cX7_wearsOf 5 (some .int) 4 [.ref (Y.2.2.1 36), .int v1] m q.2 q.1 := by
  refine qa_enti (by decide +kernel) (Nat.le_of_ble_eq_true rfl) fun X hC hQ => ?_
  have hK : qa_eq q q := rfl
  unfold f_X7_wearsOf at hf
  refine qi_bipush hC dX7_wearsOf_0 kn_bipush_6 ?_
  refine qi_iload_n hC 1 rfl rfl dX7_wearsOf_2 ?_
  refine qi_imul hC dX7_wearsOf_3 ?_
  obtain ⟨x1, ex1, hf⟩ := qa_lt_e hf
  refine qi_nmi hC ex1 ?_
  refine qi_istore_n hC rfl (by decide) rfl dX7_wearsOf_4 ?_
  refine qi_aload_n hC 1 rfl rfl dX7_wearsOf_5 ?_
  refine qi_getr hC kf_X7_13 sh_36 rfl dX7_wearsOf_6 ?_
  refine qi_iload_n hC 2 rfl rfl dX7_wearsOf_9 ?_
  obtain ⟨h2, hf⟩ := qa_ck_e hf
  refine qi_iald hC rfl sh_38 (qa_in_v h2) dX7_wearsOf_10 ?_
  obtain ⟨x3, ex3, hf⟩ := qa_lt_e hf
  refine qi_nmi hC ex3 ?_
  refine qi_istore_n hC rfl (by decide) rfl dX7_wearsOf_11 ?_
  refine qi_aload_n hC 2 rfl rfl dX7_wearsOf_12 ?_
  refine qi_iconst hC dX7_wearsOf_13 kn_iconst_0 ?_
  refine qi_aload_n hC 2 rfl rfl dX7_wearsOf_14 ?_
  refine qi_getr hC kf_X7_16 sh_36 rfl dX7_wearsOf_15 ?_
  refine qi_iload_n hC 1 rfl rfl dX7_wearsOf_18 ?_
  obtain ⟨h4, hf⟩ := qa_ck_e hf
  refine qi_iald hC rfl sh_39 (qa_in_v h4) dX7_wearsOf_19 ?_
  refine qi_aload_n hC 2 rfl rfl dX7_wearsOf_20 ?_
  refine qi_getr hC kf_X7_16 sh_36 rfl dX7_wearsOf_21 ?_
  refine qi_iload_n hC 1 rfl rfl dX7_wearsOf_24 ?_
  refine qi_iconst hC dX7_wearsOf_25 kn_iconst_2 ?_
  refine qi_iadd hC dX7_wearsOf_26 ?_
  obtain ⟨h5, hf⟩ := qa_ck_e hf
  refine qi_iald hC rfl sh_39 (qa_in_v h5) dX7_wearsOf_27 ?_
  refine qi_iload_n hC 0 rfl rfl dX7_wearsOf_28 ?_
  refine qi_aload_n hC 2 rfl rfl dX7_wearsOf_29 ?_
  refine qi_getr hC kf_X7_16 sh_36 rfl dX7_wearsOf_30 ?_
  refine qi_iload_n hC 1 rfl rfl dX7_wearsOf_33 ?_
  refine qi_iconst hC dX7_wearsOf_34 kn_iconst_3 ?_
  refine qi_iadd hC dX7_wearsOf_35 ?_
  obtain ⟨h6, hf⟩ := qa_ck_e hf
  refine qi_iald hC rfl sh_39 (qa_in_v h6) dX7_wearsOf_36 ?_
  obtain ⟨q7, hq7, hf⟩ := Option.bind_eq_some_iff.mp hf
  refine qi_callVi hC (as := [.int (0 : Int32), .int (m 39 x1.toNatClampNeg), .int (m 39 (x1 + (2 : Int32)).toNatClampNeg), .int x3, .int (m 39 (x1 + (3 : Int32)).toNatClampNeg)]) (c_X7_asksOf _ _ _ _ _ _ _ _ _ hq7) kl_X7_176 sh_36 kc_X7_asksOf rfl rfl (by decide) (by decide) (Nat.le_of_ble_eq_true rfl) dX7_wearsOf_37 ?_
  refine qi_istore hC (by decide) rfl dX7_wearsOf_40 ?_
  refine qi_aload_n hC 3 rfl rfl dX7_wearsOf_42 ?_
  refine qi_getr hC kf_X7_7 sh_36 rfl dX7_wearsOf_43 ?_
  refine qi_iload_n hC 4 rfl rfl dX7_wearsOf_46 ?_
  obtain ⟨h8, hf⟩ := qa_ck_e hf
  refine qi_iald hC rfl sh_37 (qa_in_v h8) dX7_wearsOf_47 ?_
  obtain ⟨x9, ex9, hf⟩ := qa_lt_e hf
  refine qi_nmi hC ex9 ?_
  by_cases h10 : x9 = (1 : Int32)
  · replace hf := qa_if_t h10 hf
    refine qi_tabIn (tgt := 84) (off := 36) hC dX7_wearsOf_48 (by rw [h10] <;> decide) (by rw [h10] <;> decide) (by rw [h10] <;> decide) (by decide) ?_
    refine qi_sub hC [1, 0] rfl ?_
    exact t_X7_wearsOf_84 hC hQ hf hK
  replace hf := qa_if_f h10 hf
  by_cases h12 : x9 = (2 : Int32)
  · replace hf := qa_if_t h12 hf
    refine qi_tabIn (tgt := 95) (off := 47) hC dX7_wearsOf_48 (by rw [h12] <;> decide) (by rw [h12] <;> decide) (by rw [h12] <;> decide) (by decide) ?_
    refine qi_iload hC 0 rfl dX7_wearsOf_95 ?_
    refine qi_aload_n hC 3 rfl rfl dX7_wearsOf_97 ?_
    refine qi_getr hC kf_X7_16 sh_36 rfl dX7_wearsOf_98 ?_
    refine qi_iload_n hC 2 rfl rfl dX7_wearsOf_101 ?_
    obtain ⟨h13, hf⟩ := qa_ck_e hf
    refine qi_iald hC rfl sh_39 (qa_in_v h13) dX7_wearsOf_102 ?_
    refine qi_sipush hC dX7_wearsOf_103 kn_sipush_200 ?_
    refine qi_icmp_le (tgt := 113) hC (by decide) dX7_wearsOf_106 (fun h => ?_) (fun h => ?_)
    · replace hf := qa_if_t h hf
      refine qi_iconst hC dX7_wearsOf_113 kn_iconst_0 ?_
      refine qi_sub hC [] rfl ?_
      exact t_X7_wearsOf_114 hC hQ hf hK
    · replace hf := qa_if_f h hf
      refine qi_iload_n hC 1 rfl rfl dX7_wearsOf_109 ?_
      refine qi_goto (tgt := 114) hC (by decide) dX7_wearsOf_110 ?_
      refine qi_sub hC [] rfl ?_
      exact t_X7_wearsOf_114 hC hQ hf hK
  replace hf := qa_if_f h12 hf
  by_cases h15 : x9 = (3 : Int32)
  · replace hf := qa_if_t h15 hf
    refine qi_tabIn (tgt := 84) (off := 36) hC dX7_wearsOf_48 (by rw [h15] <;> decide) (by rw [h15] <;> decide) (by rw [h15] <;> decide) (by decide) ?_
    refine qi_sub hC [1, 0] rfl ?_
    exact t_X7_wearsOf_84 hC hQ hf hK
  replace hf := qa_if_f h15 hf
  by_cases h16 : x9 = (4 : Int32)
  · replace hf := qa_if_t h16 hf
    refine qi_tabIn (tgt := 120) (off := 72) hC dX7_wearsOf_48 (by rw [h16] <;> decide) (by rw [h16] <;> decide) (by rw [h16] <;> decide) (by decide) ?_
    refine qi_iload hC 0 rfl dX7_wearsOf_120 ?_
    refine qi_aload_n hC 3 rfl rfl dX7_wearsOf_122 ?_
    refine qi_getr hC kf_X7_16 sh_36 rfl dX7_wearsOf_123 ?_
    refine qi_iload_n hC 2 rfl rfl dX7_wearsOf_126 ?_
    obtain ⟨h17, hf⟩ := qa_ck_e hf
    refine qi_iald hC rfl sh_39 (qa_in_v h17) dX7_wearsOf_127 ?_
    refine qi_sipush hC dX7_wearsOf_128 kn_sipush_200 ?_
    refine qi_icmp_le (tgt := 140) hC (by decide) dX7_wearsOf_131 (fun h => ?_) (fun h => ?_)
    · replace hf := qa_if_t h hf
      refine qi_iconst hC dX7_wearsOf_140 kn_iconst_2 ?_
      refine qi_sub hC [] rfl ?_
      exact t_X7_wearsOf_141 hC hQ hf hK
    · replace hf := qa_if_f h hf
      refine qi_iload_n hC 1 rfl rfl dX7_wearsOf_134 ?_
      refine qi_iconst hC dX7_wearsOf_135 kn_iconst_2 ?_
      refine qi_iadd hC dX7_wearsOf_136 ?_
      refine qi_goto (tgt := 141) hC (by decide) dX7_wearsOf_137 ?_
      refine qi_sub hC [] rfl ?_
      exact t_X7_wearsOf_141 hC hQ hf hK
  replace hf := qa_if_f h16 hf
  by_cases h19 : x9 = (5 : Int32)
  · replace hf := qa_if_t h19 hf
    refine qi_tabIn (tgt := 147) (off := 99) hC dX7_wearsOf_48 (by rw [h19] <;> decide) (by rw [h19] <;> decide) (by rw [h19] <;> decide) (by decide) ?_
    refine qi_iload hC 0 rfl dX7_wearsOf_147 ?_
    refine qi_iconst hC dX7_wearsOf_149 kn_iconst_2 ?_
    refine qi_idiv hC (by decide) dX7_wearsOf_150 ?_
    obtain ⟨x20, ex20, hf⟩ := qa_lt_e hf
    refine qi_nmi hC ex20 ?_
    refine qi_istore hC (by decide) rfl dX7_wearsOf_151 ?_
    refine qi_goto (tgt := 156) hC (by decide) dX7_wearsOf_153 ?_
    refine qi_sub hC [0] rfl ?_
    exact t_X7_wearsOf_156 hC hQ hf hK
  replace hf := qa_if_f h19 hf
  refine qi_tabOut (tgt := 156) hC dX7_wearsOf_48 (by have nh10 := lv_neT (a := 1) h10 (by decide); have nh12 := lv_neT (a := 2) h12 (by decide); have nh15 := lv_neT (a := 3) h15 (by decide); have nh16 := lv_neT (a := 4) h16 (by decide); have nh19 := lv_neT (a := 5) h19 (by decide); omega) (by decide) ?_
  refine qi_sub hC [0] rfl ?_
  exact t_X7_wearsOf_156 hC hQ hf hK
set_option maxRecDepth 100000 in
set_option maxHeartbeats 4000000 in
theorem c_X7_yellowsOf (l : Launch) (Y : qaY) (m : qaM) (v1 : Int32) (q : Int32 × qaM) (hf : f_X7_yellowsOf m v1 = some q) : qaMi l Y yX7_yellowsOf cX7_yellowsOf 4 (some .int) 4 [.ref (Y.2.2.1 36), .int v1] m q.2 q.1 := by
  refine qa_enti (by decide +kernel) (Nat.le_of_ble_eq_true rfl) fun X hC hQ => ?_
  have hK : qa_eq q q := rfl
  unfold f_X7_yellowsOf at hf
  refine qi_bipush hC dX7_yellowsOf_0 kn_bipush_6 ?_
  refine qi_iload_n hC 1 rfl rfl dX7_yellowsOf_2 ?_
  refine qi_imul hC dX7_yellowsOf_3 ?_
  obtain ⟨x1, ex1, hf⟩ := qa_lt_e hf
  refine qi_nmi hC ex1 ?_
  refine qi_istore_n hC rfl (by decide) rfl dX7_yellowsOf_4 ?_
  refine qi_aload_n hC 1 rfl rfl dX7_yellowsOf_5 ?_
  refine qi_iconst hC dX7_yellowsOf_6 kn_iconst_1 ?_
  refine qi_aload_n hC 1 rfl rfl dX7_yellowsOf_7 ?_
  refine qi_getr hC kf_X7_16 sh_36 rfl dX7_yellowsOf_8 ?_
  refine qi_iload_n hC 0 rfl rfl dX7_yellowsOf_11 ?_
  obtain ⟨h2, hf⟩ := qa_ck_e hf
  refine qi_iald hC rfl sh_39 (qa_in_v h2) dX7_yellowsOf_12 ?_
  refine qi_aload_n hC 1 rfl rfl dX7_yellowsOf_13 ?_
  refine qi_getr hC kf_X7_16 sh_36 rfl dX7_yellowsOf_14 ?_
  refine qi_iload_n hC 0 rfl rfl dX7_yellowsOf_17 ?_
  refine qi_iconst hC dX7_yellowsOf_18 kn_iconst_2 ?_
  refine qi_iadd hC dX7_yellowsOf_19 ?_
  obtain ⟨h3, hf⟩ := qa_ck_e hf
  refine qi_iald hC rfl sh_39 (qa_in_v h3) dX7_yellowsOf_20 ?_
  refine qi_aload_n hC 1 rfl rfl dX7_yellowsOf_21 ?_
  refine qi_getr hC kf_X7_13 sh_36 rfl dX7_yellowsOf_22 ?_
  refine qi_iload_n hC 2 rfl rfl dX7_yellowsOf_25 ?_
  obtain ⟨h4, hf⟩ := qa_ck_e hf
  refine qi_iald hC rfl sh_38 (qa_in_v h4) dX7_yellowsOf_26 ?_
  refine qi_aload_n hC 1 rfl rfl dX7_yellowsOf_27 ?_
  refine qi_getr hC kf_X7_16 sh_36 rfl dX7_yellowsOf_28 ?_
  refine qi_iload_n hC 0 rfl rfl dX7_yellowsOf_31 ?_
  refine qi_iconst hC dX7_yellowsOf_32 kn_iconst_3 ?_
  refine qi_iadd hC dX7_yellowsOf_33 ?_
  obtain ⟨h5, hf⟩ := qa_ck_e hf
  refine qi_iald hC rfl sh_39 (qa_in_v h5) dX7_yellowsOf_34 ?_
  obtain ⟨q6, hq6, hf⟩ := Option.bind_eq_some_iff.mp hf
  refine qi_callVi hC (as := [.int (1 : Int32), .int (m 39 x1.toNatClampNeg), .int (m 39 (x1 + (2 : Int32)).toNatClampNeg), .int (m 38 v1.toNatClampNeg), .int (m 39 (x1 + (3 : Int32)).toNatClampNeg)]) (c_X7_asksOf _ _ _ _ _ _ _ _ _ hq6) kl_X7_176 sh_36 kc_X7_asksOf rfl rfl (by decide) (by decide) (Nat.le_of_ble_eq_true rfl) dX7_yellowsOf_35 ?_
  refine qi_istore_n hC rfl (by decide) rfl dX7_yellowsOf_38 ?_
  refine qi_aload_n hC 2 rfl rfl dX7_yellowsOf_39 ?_
  refine qi_getr hC kf_X7_7 sh_36 rfl dX7_yellowsOf_40 ?_
  refine qi_iload_n hC 3 rfl rfl dX7_yellowsOf_43 ?_
  obtain ⟨h7, hf⟩ := qa_ck_e hf
  refine qi_iald hC rfl sh_37 (qa_in_v h7) dX7_yellowsOf_44 ?_
  refine qi_iconst hC dX7_yellowsOf_45 kn_iconst_1 ?_
  refine qi_icmp_ne (tgt := 55) hC (by decide) dX7_yellowsOf_46 (fun h => ?_) (fun h => ?_)
  · replace hf := qa_if_f h hf
    refine qi_aload_n hC 2 rfl rfl dX7_yellowsOf_55 ?_
    refine qi_getr hC kf_X7_7 sh_36 rfl dX7_yellowsOf_56 ?_
    refine qi_iload_n hC 3 rfl rfl dX7_yellowsOf_59 ?_
    obtain ⟨h8, hf⟩ := qa_ck_e hf
    refine qi_iald hC rfl sh_37 (qa_in_v h8) dX7_yellowsOf_60 ?_
    refine qi_iconst hC dX7_yellowsOf_61 kn_iconst_3 ?_
    refine qi_icmp_ne (tgt := 92) hC (by decide) dX7_yellowsOf_62 (fun h => ?_) (fun h => ?_)
    · replace hf := qa_if_f h hf
      refine qi_iload_n hC 0 rfl rfl dX7_yellowsOf_92 ?_
      obtain rfl := Option.some.inj hf
      exact qi_ireti hC hQ hK dX7_yellowsOf_93
    · replace hf := qa_if_t h hf
      refine qi_aload_n hC 2 rfl rfl dX7_yellowsOf_65 ?_
      refine qi_getr hC kf_X7_16 sh_36 rfl dX7_yellowsOf_66 ?_
      refine qi_iload_n hC 1 rfl rfl dX7_yellowsOf_69 ?_
      refine qi_iconst hC dX7_yellowsOf_70 kn_iconst_2 ?_
      refine qi_iadd hC dX7_yellowsOf_71 ?_
      obtain ⟨h9, hf⟩ := qa_ck_e hf
      refine qi_iald hC rfl sh_39 (qa_in_v h9) dX7_yellowsOf_72 ?_
      refine qi_bipush hC dX7_yellowsOf_73 kn_bipush_10 ?_
      refine qi_icmp_le (tgt := 86) hC (by decide) dX7_yellowsOf_75 (fun h => ?_) (fun h => ?_)
      · replace hf := qa_if_t h hf
        refine qi_iload_n hC 0 rfl rfl dX7_yellowsOf_86 ?_
        refine qi_iconst hC dX7_yellowsOf_87 kn_iconst_1 ?_
        refine qi_iadd hC dX7_yellowsOf_88 ?_
        refine qi_goto (tgt := 93) hC (by decide) dX7_yellowsOf_89 ?_
        obtain rfl := Option.some.inj hf
        exact qi_ireti hC hQ hK dX7_yellowsOf_93
      · replace hf := qa_if_f h hf
        refine qi_iconst hC dX7_yellowsOf_78 kn_iconst_2 ?_
        refine qi_iload_n hC 0 rfl rfl dX7_yellowsOf_79 ?_
        refine qi_iconst hC dX7_yellowsOf_80 kn_iconst_1 ?_
        refine qi_iadd hC dX7_yellowsOf_81 ?_
        refine qi_imul hC dX7_yellowsOf_82 ?_
        refine qi_goto (tgt := 93) hC (by decide) dX7_yellowsOf_83 ?_
        obtain rfl := Option.some.inj hf
        exact qi_ireti hC hQ hK dX7_yellowsOf_93
  · replace hf := qa_if_t h hf
    refine qi_iload_n hC 0 rfl rfl dX7_yellowsOf_49 ?_
    refine qi_iconst hC dX7_yellowsOf_50 kn_iconst_1 ?_
    refine qi_iadd hC dX7_yellowsOf_51 ?_
    refine qi_goto (tgt := 93) hC (by decide) dX7_yellowsOf_52 ?_
    obtain rfl := Option.some.inj hf
    exact qi_ireti hC hQ hK dX7_yellowsOf_93
set_option maxRecDepth 100000 in
set_option maxHeartbeats 4000000 in
theorem t_X7_told_74 {X : qaX} {l : Launch} {Y : qaY} {fin : Int32} {m : qaM} (hC : QC X l Y cX7_told RX7 3 3) (hQ : QRi X Y (some .int) m fin) {v1 : Int32} {v2 : Int32} {z : (Int32)} (hf : b_X7_told_74 m v1 v2 = some z) (hK : (qa_eq fin) z) : QG X Y 3 m 74 [(0, .ref (Y.2.2.1 36)), (1, .int v1), (2, .int v2)] [] := by
  unfold b_X7_told_74 at hf
  refine qi_aload_n hC 0 rfl rfl dX7_told_74 ?_
  refine qi_getr hC kf_X7_16 sh_36 rfl dX7_told_75 ?_
  refine qi_bipush hC dX7_told_78 kn_bipush_6 ?_
  refine qi_iload_n hC 1 rfl rfl dX7_told_80 ?_
  refine qi_imul hC dX7_told_81 ?_
  refine qi_iload_n hC 2 rfl rfl dX7_told_82 ?_
  refine qi_iadd hC dX7_told_83 ?_
  refine qi_iconst hC dX7_told_84 kn_iconst_2 ?_
  refine qi_isub hC dX7_told_85 ?_
  obtain ⟨h7, hf⟩ := qa_ck_e hf
  refine qi_iald hC rfl sh_39 (qa_in_v h7) dX7_told_86 ?_
  obtain rfl := Option.some.inj hf
  exact qi_ireti hC hQ (congrArg (fun w => (w, m)) hK) dX7_told_87
set_option maxRecDepth 100000 in
set_option maxHeartbeats 4000000 in
theorem c_X7_told (l : Launch) (Y : qaY) (m : qaM) (v1 : Int32) (v2 : Int32) (q : Int32) (hf : f_X7_told m v1 v2 = some q) : qaMi l Y yX7_told cX7_told 3 (some .int) 3 [.ref (Y.2.2.1 36), .int v1, .int v2] m m q := by
  refine qa_enti (by decide +kernel) (Nat.le_of_ble_eq_true rfl) fun X hC hQ => ?_
  have hK : qa_eq q q := rfl
  unfold f_X7_told at hf
  refine qi_aload_n hC 0 rfl rfl dX7_told_0 ?_
  refine qi_iload_n hC 1 rfl rfl dX7_told_1 ?_
  obtain ⟨q1, hq1, hf⟩ := Option.bind_eq_some_iff.mp hf
  refine qi_callVi hC (as := [.int v1]) (c_X7_isLinen _ _ _ _ _ hq1) kl_X7_187 sh_36 kc_X7_isLinen rfl rfl (by decide) (by decide) (Nat.le_of_ble_eq_true rfl) dX7_told_2 ?_
  refine qi_if_ne (tgt := 11) hC (by decide) dX7_told_5 (fun h => ?_) (fun h => ?_)
  · replace hf := qa_if_f h hf
    refine qi_iload_n hC 2 rfl rfl dX7_told_11 ?_
    by_cases h2 : v2 = (0 : Int32)
    · replace hf := qa_if_t h2 hf
      refine qi_tabIn (tgt := 60) (off := 48) hC dX7_told_12 (by rw [h2] <;> decide) (by rw [h2] <;> decide) (by rw [h2] <;> decide) (by decide) ?_
      refine qi_aload_n hC 0 rfl rfl dX7_told_60 ?_
      refine qi_getr hC kf_X7_7 sh_36 rfl dX7_told_61 ?_
      refine qi_iload_n hC 1 rfl rfl dX7_told_64 ?_
      obtain ⟨h3, hf⟩ := qa_ck_e hf
      refine qi_iald hC rfl sh_37 (qa_in_v h3) dX7_told_65 ?_
      obtain rfl := Option.some.inj hf
      exact qi_ireti hC hQ (congrArg (fun w => (w, m)) hK) dX7_told_66
    replace hf := qa_if_f h2 hf
    by_cases h4 : v2 = (1 : Int32)
    · replace hf := qa_if_t h4 hf
      refine qi_tabIn (tgt := 67) (off := 55) hC dX7_told_12 (by rw [h4] <;> decide) (by rw [h4] <;> decide) (by rw [h4] <;> decide) (by decide) ?_
      refine qi_aload_n hC 0 rfl rfl dX7_told_67 ?_
      refine qi_getr hC kf_X7_13 sh_36 rfl dX7_told_68 ?_
      refine qi_iload_n hC 1 rfl rfl dX7_told_71 ?_
      obtain ⟨h5, hf⟩ := qa_ck_e hf
      refine qi_iald hC rfl sh_38 (qa_in_v h5) dX7_told_72 ?_
      obtain rfl := Option.some.inj hf
      exact qi_ireti hC hQ (congrArg (fun w => (w, m)) hK) dX7_told_73
    replace hf := qa_if_f h4 hf
    by_cases h6 : v2 = (2 : Int32)
    · replace hf := qa_if_t h6 hf
      refine qi_tabIn (tgt := 74) (off := 62) hC dX7_told_12 (by rw [h6] <;> decide) (by rw [h6] <;> decide) (by rw [h6] <;> decide) (by decide) ?_
      exact t_X7_told_74 hC hQ hf hK
    replace hf := qa_if_f h6 hf
    by_cases h8 : v2 = (3 : Int32)
    · replace hf := qa_if_t h8 hf
      refine qi_tabIn (tgt := 74) (off := 62) hC dX7_told_12 (by rw [h8] <;> decide) (by rw [h8] <;> decide) (by rw [h8] <;> decide) (by decide) ?_
      exact t_X7_told_74 hC hQ hf hK
    replace hf := qa_if_f h8 hf
    by_cases h9 : v2 = (4 : Int32)
    · replace hf := qa_if_t h9 hf
      refine qi_tabIn (tgt := 74) (off := 62) hC dX7_told_12 (by rw [h9] <;> decide) (by rw [h9] <;> decide) (by rw [h9] <;> decide) (by decide) ?_
      exact t_X7_told_74 hC hQ hf hK
    replace hf := qa_if_f h9 hf
    by_cases h10 : v2 = (5 : Int32)
    · replace hf := qa_if_t h10 hf
      refine qi_tabIn (tgt := 74) (off := 62) hC dX7_told_12 (by rw [h10] <;> decide) (by rw [h10] <;> decide) (by rw [h10] <;> decide) (by decide) ?_
      exact t_X7_told_74 hC hQ hf hK
    replace hf := qa_if_f h10 hf
    by_cases h11 : v2 = (6 : Int32)
    · replace hf := qa_if_t h11 hf
      refine qi_tabIn (tgt := 88) (off := 76) hC dX7_told_12 (by rw [h11] <;> decide) (by rw [h11] <;> decide) (by rw [h11] <;> decide) (by decide) ?_
      refine qi_aload_n hC 0 rfl rfl dX7_told_88 ?_
      refine qi_getr hC kf_X7_16 sh_36 rfl dX7_told_89 ?_
      refine qi_bipush hC dX7_told_92 kn_bipush_6 ?_
      refine qi_iload_n hC 1 rfl rfl dX7_told_94 ?_
      refine qi_imul hC dX7_told_95 ?_
      refine qi_iconst hC dX7_told_96 kn_iconst_5 ?_
      refine qi_iadd hC dX7_told_97 ?_
      obtain ⟨h12, hf⟩ := qa_ck_e hf
      refine qi_iald hC rfl sh_39 (qa_in_v h12) dX7_told_98 ?_
      refine qi_iconst hC dX7_told_99 kn_iconst_1 ?_
      refine qi_icmp_ne (tgt := 107) hC (by decide) dX7_told_100 (fun h => ?_) (fun h => ?_)
      · replace hf := qa_if_f h hf
        refine qi_aload_n hC 0 rfl rfl dX7_told_107 ?_
        refine qi_getr hC kf_X7_16 sh_36 rfl dX7_told_108 ?_
        refine qi_bipush hC dX7_told_111 kn_bipush_6 ?_
        refine qi_iload_n hC 1 rfl rfl dX7_told_113 ?_
        refine qi_imul hC dX7_told_114 ?_
        refine qi_iconst hC dX7_told_115 kn_iconst_4 ?_
        refine qi_iadd hC dX7_told_116 ?_
        obtain ⟨h13, hf⟩ := qa_ck_e hf
        refine qi_iald hC rfl sh_39 (qa_in_v h13) dX7_told_117 ?_
        obtain rfl := Option.some.inj hf
        exact qi_ireti hC hQ (congrArg (fun w => (w, m)) hK) dX7_told_118
      · replace hf := qa_if_t h hf
        refine qi_iconst hC dX7_told_103 kn_iconst_m1 ?_
        refine qi_goto (tgt := 118) hC (by decide) dX7_told_104 ?_
        obtain rfl := Option.some.inj hf
        exact qi_ireti hC hQ (congrArg (fun w => (w, m)) hK) dX7_told_118
    replace hf := qa_if_f h11 hf
    by_cases h14 : v2 = (7 : Int32)
    · replace hf := qa_if_t h14 hf
      refine qi_tabIn (tgt := 119) (off := 107) hC dX7_told_12 (by rw [h14] <;> decide) (by rw [h14] <;> decide) (by rw [h14] <;> decide) (by decide) ?_
      refine qi_aload_n hC 0 rfl rfl dX7_told_119 ?_
      refine qi_iload_n hC 1 rfl rfl dX7_told_120 ?_
      obtain ⟨q15, hq15, hf⟩ := Option.bind_eq_some_iff.mp hf
      refine qi_callVi hC (as := [.int v1]) (c_X7_lastsOf _ _ _ _ _ hq15) kl_X7_190 sh_36 kc_X7_lastsOf rfl rfl (by decide) (by decide) (Nat.le_of_ble_eq_true rfl) dX7_told_121 ?_
      obtain rfl := Option.some.inj hf
      exact qi_ireti hC hQ (congrArg (fun w => (w, m)) hK) dX7_told_124
    replace hf := qa_if_f h14 hf
    refine qi_tabOut (tgt := 125) hC dX7_told_12 (by have nh2 := lv_neT (a := 0) h2 (by decide); have nh4 := lv_neT (a := 1) h4 (by decide); have nh6 := lv_neT (a := 2) h6 (by decide); have nh8 := lv_neT (a := 3) h8 (by decide); have nh9 := lv_neT (a := 4) h9 (by decide); have nh10 := lv_neT (a := 5) h10 (by decide); have nh11 := lv_neT (a := 6) h11 (by decide); have nh14 := lv_neT (a := 7) h14 (by decide); omega) (by decide) ?_
    refine qi_bipush hC dX7_told_125 kn_bipush_m7 ?_
    obtain rfl := Option.some.inj hf
    exact qi_ireti hC hQ (congrArg (fun w => (w, m)) hK) dX7_told_127
  · replace hf := qa_if_t h hf
    refine qi_bipush hC dX7_told_8 kn_bipush_m5 ?_
    obtain rfl := Option.some.inj hf
    exact qi_ireti hC hQ (congrArg (fun w => (w, m)) hK) dX7_told_10
set_option maxRecDepth 100000 in
set_option maxHeartbeats 4000000 in
theorem t_X7_put_35 {X : qaX} {l : Launch} {Y : qaY} {fin : Int32 × qaM} (hC : QC X l Y cX7_put RX7 5 3) (hQ : QRi X Y (some .int) fin.2 fin.1) {m : qaM} {v1 : Int32} {v2 : Int32} {v3 : Int32} {s0 : Int32} {s1 : Int32} {s2 : Int32} {z : (Int32 × qaM)} (hf : b_X7_put_35 m v1 v2 v3 s0 s1 s2 = some z) (hK : (qa_eq fin) z) : QG X Y 5 m 35 [(0, .ref (Y.2.2.1 36)), (1, .int v1), (2, .int v2), (3, .int v3)] [.int s2, .int s1, .int s0] := by
  unfold b_X7_put_35 at hf
  obtain ⟨q3, hq3, hf⟩ := Option.bind_eq_some_iff.mp hf
  refine qi_callSi hC (as := [.int s0, .int s1, .int s2]) (c_X7_in _ _ _ _ _ _ _ hq3) kl_X7_90 kc_X7_in rfl rfl (by decide) (by decide) (Nat.le_of_ble_eq_true rfl) dX7_put_35 ?_
  refine qi_if_ne (tgt := 44) hC (by decide) dX7_put_38 (fun h => ?_) (fun h => ?_)
  · replace hf := qa_if_f h hf
    refine qi_aload_n hC 0 rfl rfl dX7_put_44 ?_
    refine qi_getr hC kf_X7_16 sh_36 rfl dX7_put_45 ?_
    refine qi_bipush hC dX7_put_48 kn_bipush_6 ?_
    refine qi_iload_n hC 1 rfl rfl dX7_put_50 ?_
    refine qi_imul hC dX7_put_51 ?_
    refine qi_iload_n hC 2 rfl rfl dX7_put_52 ?_
    refine qi_iadd hC dX7_put_53 ?_
    obtain ⟨h4, hf⟩ := qa_ck_e hf
    refine qi_iald hC rfl sh_39 (qa_in_v h4) dX7_put_54 ?_
    obtain ⟨x5, ex5, hf⟩ := qa_lt_e hf
    refine qi_nmi hC ex5 ?_
    refine qi_istore hC (by decide) rfl dX7_put_55 ?_
    refine qi_aload_n hC 1 rfl rfl dX7_put_57 ?_
    refine qi_getr hC kf_X7_16 sh_36 rfl dX7_put_58 ?_
    refine qi_bipush hC dX7_put_61 kn_bipush_6 ?_
    refine qi_iload_n hC 2 rfl rfl dX7_put_63 ?_
    refine qi_imul hC dX7_put_64 ?_
    refine qi_iload_n hC 3 rfl rfl dX7_put_65 ?_
    refine qi_iadd hC dX7_put_66 ?_
    refine qi_iload_n hC 4 rfl rfl dX7_put_67 ?_
    obtain ⟨h6, hf⟩ := qa_ck_e hf
    obtain ⟨m7, em7, hf⟩ := qa_lt_e hf
    refine qi_iast hC rfl em7 sh_39 (qa_in_v h6) dX7_put_68 ?_
    refine qi_iload hC 0 rfl dX7_put_69 ?_
    obtain rfl := Option.some.inj hf
    exact qi_ireti hC hQ hK dX7_put_71
  · replace hf := qa_if_t h hf
    refine qi_bipush hC dX7_put_41 kn_bipush_m7 ?_
    obtain rfl := Option.some.inj hf
    exact qi_ireti hC hQ hK dX7_put_43
set_option maxRecDepth 100000 in
set_option maxHeartbeats 4000000 in
theorem c_X7_put (l : Launch) (Y : qaY) (m : qaM) (v1 : Int32) (v2 : Int32) (v3 : Int32) (q : Int32 × qaM) (hf : f_X7_put m v1 v2 v3 = some q) : qaMi l Y yX7_put cX7_put 5 (some .int) 3 [.ref (Y.2.2.1 36), .int v1, .int v2, .int v3] m q.2 q.1 := by
  refine qa_enti (by decide +kernel) (Nat.le_of_ble_eq_true rfl) fun X hC hQ => ?_
  have hK : qa_eq q q := rfl
  unfold f_X7_put at hf
  refine qi_aload_n hC 0 rfl rfl dX7_put_0 ?_
  refine qi_iload_n hC 1 rfl rfl dX7_put_1 ?_
  obtain ⟨q1, hq1, hf⟩ := Option.bind_eq_some_iff.mp hf
  refine qi_callVi hC (as := [.int v1]) (c_X7_isLinen _ _ _ _ _ hq1) kl_X7_187 sh_36 kc_X7_isLinen rfl rfl (by decide) (by decide) (Nat.le_of_ble_eq_true rfl) dX7_put_2 ?_
  refine qi_if_ne (tgt := 11) hC (by decide) dX7_put_5 (fun h => ?_) (fun h => ?_)
  · replace hf := qa_if_f h hf
    refine qi_iload_n hC 2 rfl rfl dX7_put_11 ?_
    refine qi_iconst hC dX7_put_12 kn_iconst_0 ?_
    refine qi_iconst hC dX7_put_13 kn_iconst_2 ?_
    obtain ⟨q2, hq2, hf⟩ := Option.bind_eq_some_iff.mp hf
    refine qi_callSi hC (as := [.int v2, .int (0 : Int32), .int (2 : Int32)]) (c_X7_in _ _ _ _ _ _ _ hq2) kl_X7_90 kc_X7_in rfl rfl (by decide) (by decide) (Nat.le_of_ble_eq_true rfl) dX7_put_14 ?_
    refine qi_if_eq (tgt := 41) hC (by decide) dX7_put_17 (fun h => ?_) (fun h => ?_)
    · replace hf := qa_if_t h hf
      refine qi_bipush hC dX7_put_41 kn_bipush_m7 ?_
      obtain rfl := Option.some.inj hf
      exact qi_ireti hC hQ hK dX7_put_43
    · replace hf := qa_if_f h hf
      refine qi_iload_n hC 3 rfl rfl dX7_put_20 ?_
      refine qi_iconst hC dX7_put_21 kn_iconst_0 ?_
      refine qi_iload_n hC 2 rfl rfl dX7_put_22 ?_
      refine qi_iconst hC dX7_put_23 kn_iconst_1 ?_
      refine qi_icmp_ne (tgt := 32) hC (by decide) dX7_put_24 (fun h => ?_) (fun h => ?_)
      · replace hf := qa_if_f h hf
        refine qi_sipush hC dX7_put_32 kn_sipush_999 ?_
        exact t_X7_put_35 hC hQ hf hK
      · replace hf := qa_if_t h hf
        refine qi_bipush hC dX7_put_27 kn_bipush_99 ?_
        refine qi_goto (tgt := 35) hC (by decide) dX7_put_29 ?_
        exact t_X7_put_35 hC hQ hf hK
  · replace hf := qa_if_t h hf
    refine qi_bipush hC dX7_put_8 kn_bipush_m5 ?_
    obtain rfl := Option.some.inj hf
    exact qi_ireti hC hQ hK dX7_put_10
set_option maxRecDepth 100000 in
set_option maxHeartbeats 4000000 in
theorem c_X7_lies (l : Launch) (Y : qaY) (m : qaM) (v1 : Int32) (q : Int32) (hf : f_X7_lies m v1 = some q) : qaMi l Y yX7_lies cX7_lies 2 (some .int) 2 [.ref (Y.2.2.1 36), .int v1] m m q := by
  refine qa_enti (by decide +kernel) (Nat.le_of_ble_eq_true rfl) fun X hC hQ => ?_
  have hK : qa_eq q q := rfl
  unfold f_X7_lies at hf
  refine qi_iload_n hC 1 rfl rfl dX7_lies_0 ?_
  refine qi_iconst hC dX7_lies_1 kn_iconst_0 ?_
  refine qi_aload_n hC 0 rfl rfl dX7_lies_2 ?_
  refine qi_geti hC kf_X7_94 sh_36 rfl dX7_lies_3 ?_
  refine qi_iconst hC dX7_lies_6 kn_iconst_1 ?_
  refine qi_isub hC dX7_lies_7 ?_
  obtain ⟨q1, hq1, hf⟩ := Option.bind_eq_some_iff.mp hf
  refine qi_callSi hC (as := [.int v1, .int (0 : Int32), .int ((m 36 5) - (1 : Int32))]) (c_X7_in _ _ _ _ _ _ _ hq1) kl_X7_90 kc_X7_in rfl rfl (by decide) (by decide) (Nat.le_of_ble_eq_true rfl) dX7_lies_8 ?_
  refine qi_if_eq (tgt := 23) hC (by decide) dX7_lies_11 (fun h => ?_) (fun h => ?_)
  · replace hf := qa_if_t h hf
    refine qi_bipush hC dX7_lies_23 kn_bipush_m6 ?_
    obtain rfl := Option.some.inj hf
    exact qi_ireti hC hQ (congrArg (fun w => (w, m)) hK) dX7_lies_25
  · replace hf := qa_if_f h hf
    refine qi_aload_n hC 0 rfl rfl dX7_lies_14 ?_
    refine qi_getr hC kf_X7_19 sh_36 rfl dX7_lies_15 ?_
    refine qi_iload_n hC 1 rfl rfl dX7_lies_18 ?_
    obtain ⟨h2, hf⟩ := qa_ck_e hf
    refine qi_iald hC rfl sh_40 (qa_in_v h2) dX7_lies_19 ?_
    refine qi_goto (tgt := 25) hC (by decide) dX7_lies_20 ?_
    obtain rfl := Option.some.inj hf
    exact qi_ireti hC hQ (congrArg (fun w => (w, m)) hK) dX7_lies_25
set_option maxRecDepth 100000 in
set_option maxHeartbeats 4000000 in
theorem c_X7_mayTurn (l : Launch) (Y : qaY) (m : qaM) (v1 : Int32) (q : Int32) (hf : f_X7_mayTurn m v1 = some q) : qaMi l Y yX7_mayTurn cX7_mayTurn 2 (some .boolean) 2 [.ref (Y.2.2.1 36), .int v1] m m q := by
  refine qa_enti (by decide +kernel) (Nat.le_of_ble_eq_true rfl) fun X hC hQ => ?_
  have hK : qa_eq q q := rfl
  unfold f_X7_mayTurn at hf
  refine qi_aload_n hC 0 rfl rfl dX7_mayTurn_0 ?_
  refine qi_getr hC kf_X7_16 sh_36 rfl dX7_mayTurn_1 ?_
  refine qi_bipush hC dX7_mayTurn_4 kn_bipush_6 ?_
  refine qi_iload_n hC 1 rfl rfl dX7_mayTurn_6 ?_
  refine qi_imul hC dX7_mayTurn_7 ?_
  refine qi_iconst hC dX7_mayTurn_8 kn_iconst_3 ?_
  refine qi_iadd hC dX7_mayTurn_9 ?_
  obtain ⟨h1, hf⟩ := qa_ck_e hf
  refine qi_iald hC rfl sh_39 (qa_in_v h1) dX7_mayTurn_10 ?_
  refine qi_if_ne (tgt := 27) hC (by decide) dX7_mayTurn_11 (fun h => ?_) (fun h => ?_)
  · replace hf := qa_if_f h hf
    refine qi_iconst hC dX7_mayTurn_27 kn_iconst_0 ?_
    obtain rfl := Option.some.inj hf
    exact qi_iretz hC hQ (congrArg (fun w => (w, m)) hK) rfl dX7_mayTurn_28
  · replace hf := qa_if_t h hf
    refine qi_aload_n hC 0 rfl rfl dX7_mayTurn_14 ?_
    refine qi_iload_n hC 1 rfl rfl dX7_mayTurn_15 ?_
    obtain ⟨q2, hq2, hf⟩ := Option.bind_eq_some_iff.mp hf
    refine qi_callVi hC (as := [.int v1]) (c_X7_placeOf _ _ _ _ _ hq2) kl_X7_193 sh_36 kc_X7_placeOf rfl rfl (by decide) (by decide) (Nat.le_of_ble_eq_true rfl) dX7_mayTurn_16 ?_
    refine qi_iconst hC dX7_mayTurn_19 kn_iconst_m1 ?_
    refine qi_icmp_eq (tgt := 27) hC (by decide) dX7_mayTurn_20 (fun h => ?_) (fun h => ?_)
    · replace hf := qa_if_t h hf
      refine qi_iconst hC dX7_mayTurn_27 kn_iconst_0 ?_
      obtain rfl := Option.some.inj hf
      exact qi_iretz hC hQ (congrArg (fun w => (w, m)) hK) rfl dX7_mayTurn_28
    · replace hf := qa_if_f h hf
      refine qi_iconst hC dX7_mayTurn_23 kn_iconst_1 ?_
      refine qi_goto (tgt := 28) hC (by decide) dX7_mayTurn_24 ?_
      obtain rfl := Option.some.inj hf
      exact qi_iretz hC hQ (congrArg (fun w => (w, m)) hK) rfl dX7_mayTurn_28
set_option maxRecDepth 100000 in
set_option maxHeartbeats 4000000 in
theorem c_X7_turns (l : Launch) (Y : qaY) (m : qaM) (v1 : Int32) (q : qaM) (hf : f_X7_turns m v1 = some q) : qaMv l Y yX7_turns cX7_turns 2 1 [.ref (Y.2.2.1 36), .int v1] m q := by
  refine qa_entv (by decide +kernel) (Nat.le_of_ble_eq_true rfl) fun X hC hQ => ?_
  have hK : qa_eq q q := rfl
  unfold f_X7_turns at hf
  refine qi_aload_n hC 0 rfl rfl dX7_turns_0 ?_
  refine qi_getr hC kf_X7_16 sh_36 rfl dX7_turns_1 ?_
  refine qi_bipush hC dX7_turns_4 kn_bipush_6 ?_
  refine qi_iload_n hC 1 rfl rfl dX7_turns_6 ?_
  refine qi_imul hC dX7_turns_7 ?_
  obtain ⟨x1, ex1, hf⟩ := qa_lt_e hf
  refine qi_nmi hC ex1 ?_
  refine qi_dup2 hC rfl rfl dX7_turns_8 ?_
  obtain ⟨h2, hf⟩ := qa_ck_e hf
  refine qi_iald hC rfl sh_39 (qa_in_v h2) dX7_turns_9 ?_
  refine qi_iconst hC dX7_turns_10 kn_iconst_2 ?_
  refine qi_idiv hC (by decide) dX7_turns_11 ?_
  obtain ⟨h3, hf⟩ := qa_ck_e hf
  obtain ⟨m4, em4, hf⟩ := qa_lt_e hf
  refine qi_iast hC rfl em4 sh_39 (qa_in_v h3) dX7_turns_12 ?_
  refine qi_aload_n hC 0 rfl rfl dX7_turns_13 ?_
  refine qi_getr hC kf_X7_16 sh_36 rfl dX7_turns_14 ?_
  refine qi_bipush hC dX7_turns_17 kn_bipush_6 ?_
  refine qi_iload_n hC 1 rfl rfl dX7_turns_19 ?_
  refine qi_imul hC dX7_turns_20 ?_
  refine qi_iconst hC dX7_turns_21 kn_iconst_3 ?_
  refine qi_iadd hC dX7_turns_22 ?_
  refine qi_iconst hC dX7_turns_23 kn_iconst_1 ?_
  obtain ⟨h5, hf⟩ := qa_ck_e hf
  obtain ⟨m6, em6, hf⟩ := qa_lt_e hf
  refine qi_iast hC rfl em6 sh_39 (qa_in_v h5) dX7_turns_24 ?_
  obtain rfl := Option.some.inj hf
  exact qi_vret hC hQ hK dX7_turns_25
set_option maxRecDepth 100000 in
set_option maxHeartbeats 4000000 in
theorem c_X7_turn (l : Launch) (Y : qaY) (m : qaM) (v1 : Int32) (q : Int32 × qaM) (hf : f_X7_turn m v1 = some q) : qaMi l Y yX7_turn cX7_turn 2 (some .int) 3 [.ref (Y.2.2.1 36), .int v1] m q.2 q.1 := by
  refine qa_enti (by decide +kernel) (Nat.le_of_ble_eq_true rfl) fun X hC hQ => ?_
  have hK : qa_eq q q := rfl
  unfold f_X7_turn at hf
  refine qi_aload_n hC 0 rfl rfl dX7_turn_0 ?_
  refine qi_iload_n hC 1 rfl rfl dX7_turn_1 ?_
  obtain ⟨q1, hq1, hf⟩ := Option.bind_eq_some_iff.mp hf
  refine qi_callVi hC (as := [.int v1]) (c_X7_isLinen _ _ _ _ _ hq1) kl_X7_187 sh_36 kc_X7_isLinen rfl rfl (by decide) (by decide) (Nat.le_of_ble_eq_true rfl) dX7_turn_2 ?_
  refine qi_if_ne (tgt := 11) hC (by decide) dX7_turn_5 (fun h => ?_) (fun h => ?_)
  · replace hf := qa_if_f h hf
    refine qi_aload_n hC 0 rfl rfl dX7_turn_11 ?_
    refine qi_iload_n hC 1 rfl rfl dX7_turn_12 ?_
    obtain ⟨q2, hq2, hf⟩ := Option.bind_eq_some_iff.mp hf
    refine qi_callVi hC (as := [.int v1]) (c_X7_mayTurn _ _ _ _ _ hq2) kl_X7_196 sh_36 kc_X7_mayTurn rfl rfl (by decide) (by decide) (Nat.le_of_ble_eq_true rfl) dX7_turn_13 ?_
    refine qi_if_ne (tgt := 22) hC (by decide) dX7_turn_16 (fun h => ?_) (fun h => ?_)
    · replace hf := qa_if_f h hf
      refine qi_aload_n hC 0 rfl rfl dX7_turn_22 ?_
      refine qi_iload_n hC 1 rfl rfl dX7_turn_23 ?_
      obtain ⟨q3, hq3, hf⟩ := Option.bind_eq_some_iff.mp hf
      refine qi_callVv hC (as := [.int v1]) (c_X7_turns _ _ _ _ _ hq3) kl_X7_199 sh_36 kc_X7_turns rfl rfl (by decide) (by decide) (Nat.le_of_ble_eq_true rfl) dX7_turn_24 ?_
      refine qi_aload_n hC 0 rfl rfl dX7_turn_27 ?_
      refine qi_getr hC kf_X7_16 sh_36 rfl dX7_turn_28 ?_
      refine qi_bipush hC dX7_turn_31 kn_bipush_6 ?_
      refine qi_iload_n hC 1 rfl rfl dX7_turn_33 ?_
      refine qi_imul hC dX7_turn_34 ?_
      obtain ⟨h4, hf⟩ := qa_ck_e hf
      refine qi_iald hC rfl sh_39 (qa_in_v h4) dX7_turn_35 ?_
      obtain rfl := Option.some.inj hf
      exact qi_ireti hC hQ hK dX7_turn_36
    · replace hf := qa_if_t h hf
      refine qi_bipush hC dX7_turn_19 kn_bipush_m3 ?_
      obtain rfl := Option.some.inj hf
      exact qi_ireti hC hQ hK dX7_turn_21
  · replace hf := qa_if_t h hf
    refine qi_bipush hC dX7_turn_8 kn_bipush_m5 ?_
    obtain rfl := Option.some.inj hf
    exact qi_ireti hC hQ hK dX7_turn_10
set_option maxRecDepth 100000 in
set_option maxHeartbeats 4000000 in
theorem c_X7_next (l : Launch) (Y : qaY) (m : qaM) (q : Int32) (hf : f_X7_next m = some q) : qaMi l Y yX7_next cX7_next 1 (some .int) 2 [.ref (Y.2.2.1 36)] m m q := by
  refine qa_enti (by decide +kernel) (Nat.le_of_ble_eq_true rfl) fun X hC hQ => ?_
  have hK : qa_eq q q := rfl
  unfold f_X7_next at hf
  refine qi_aload_n hC 0 rfl rfl dX7_next_0 ?_
  refine qi_geti hC kf_X7_94 sh_36 rfl dX7_next_1 ?_
  refine qi_if_ne (tgt := 11) hC (by decide) dX7_next_4 (fun h => ?_) (fun h => ?_)
  · replace hf := qa_if_f h hf
    refine qi_aload_n hC 0 rfl rfl dX7_next_11 ?_
    refine qi_getr hC kf_X7_19 sh_36 rfl dX7_next_12 ?_
    refine qi_aload_n hC 0 rfl rfl dX7_next_15 ?_
    refine qi_aload_n hC 0 rfl rfl dX7_next_16 ?_
    refine qi_getr hC kf_X7_22 sh_36 rfl dX7_next_17 ?_
    refine qi_iconst hC dX7_next_20 kn_iconst_2 ?_
    refine qi_iald hC tn_2 sh_41 vi_2_4 dX7_next_21 ?_
    obtain ⟨q1, hq1, hf⟩ := Option.bind_eq_some_iff.mp hf
    refine qi_callVi hC (as := [.int (m 41 2)]) (c_X7_placeBy _ _ _ _ _ hq1) kl_X7_202 sh_36 kc_X7_placeBy rfl rfl (by decide) (by decide) (Nat.le_of_ble_eq_true rfl) dX7_next_22 ?_
    obtain ⟨h2, hf⟩ := qa_ck_e hf
    refine qi_iald hC rfl sh_40 (qa_in_v h2) dX7_next_25 ?_
    obtain rfl := Option.some.inj hf
    exact qi_ireti hC hQ (congrArg (fun w => (w, m)) hK) dX7_next_26
  · replace hf := qa_if_t h hf
    refine qi_iconst hC dX7_next_7 kn_iconst_m1 ?_
    refine qi_goto (tgt := 26) hC (by decide) dX7_next_8 ?_
    obtain rfl := Option.some.inj hf
    exact qi_ireti hC hQ (congrArg (fun w => (w, m)) hK) dX7_next_26
set_option maxRecDepth 100000 in
set_option maxHeartbeats 4000000 in
theorem c_X7_areWrong (l : Launch) (Y : qaY) (m : qaM) (v1 : Int32) (v2 : Int32) (v3 : Int32) (q : Int32) (hf : f_X7_areWrong m v1 v2 v3 = some q) : qaMi l Y yX7_areWrong cX7_areWrong 4 (some .boolean) 1 [.ref (Y.2.2.1 36), .int v1, .int v2, .int v3] m m q := by
  refine qa_enti (by decide +kernel) (Nat.le_of_ble_eq_true rfl) fun X hC hQ => ?_
  have hK : qa_eq q q := rfl
  unfold f_X7_areWrong at hf
  refine qi_iload_n hC 1 rfl rfl dX7_areWrong_0 ?_
  refine qi_if_ne (tgt := 33) hC (by decide) dX7_areWrong_1 (fun h => ?_) (fun h => ?_)
  · replace hf := qa_if_f h hf
    refine qi_iload_n hC 1 rfl rfl dX7_areWrong_33 ?_
    refine qi_iconst hC dX7_areWrong_34 kn_iconst_1 ?_
    refine qi_icmp_ne (tgt := 67) hC (by decide) dX7_areWrong_35 (fun h => ?_) (fun h => ?_)
    · replace hf := qa_if_f h hf
      refine qi_iload_n hC 3 rfl rfl dX7_areWrong_67 ?_
      refine qi_iload_n hC 2 rfl rfl dX7_areWrong_68 ?_
      refine qi_icmp_ge (tgt := 76) hC (by decide) dX7_areWrong_69 (fun h => ?_) (fun h => ?_)
      · replace hf := qa_if_t h hf
        refine qi_iconst hC dX7_areWrong_76 kn_iconst_0 ?_
        obtain rfl := Option.some.inj hf
        exact qi_iretz hC hQ (congrArg (fun w => (w, m)) hK) rfl dX7_areWrong_77
      · replace hf := qa_if_f h hf
        refine qi_iconst hC dX7_areWrong_72 kn_iconst_1 ?_
        refine qi_goto (tgt := 77) hC (by decide) dX7_areWrong_73 ?_
        obtain rfl := Option.some.inj hf
        exact qi_iretz hC hQ (congrArg (fun w => (w, m)) hK) rfl dX7_areWrong_77
    · replace hf := qa_if_t h hf
      refine qi_aload_n hC 0 rfl rfl dX7_areWrong_38 ?_
      refine qi_getr hC kf_X7_16 sh_36 rfl dX7_areWrong_39 ?_
      refine qi_bipush hC dX7_areWrong_42 kn_bipush_6 ?_
      refine qi_iload_n hC 3 rfl rfl dX7_areWrong_44 ?_
      refine qi_imul hC dX7_areWrong_45 ?_
      obtain ⟨h1, hf⟩ := qa_ck_e hf
      refine qi_iald hC rfl sh_39 (qa_in_v h1) dX7_areWrong_46 ?_
      refine qi_aload_n hC 0 rfl rfl dX7_areWrong_47 ?_
      refine qi_getr hC kf_X7_16 sh_36 rfl dX7_areWrong_48 ?_
      refine qi_bipush hC dX7_areWrong_51 kn_bipush_6 ?_
      refine qi_iload_n hC 2 rfl rfl dX7_areWrong_53 ?_
      refine qi_imul hC dX7_areWrong_54 ?_
      obtain ⟨h2, hf⟩ := qa_ck_e hf
      refine qi_iald hC rfl sh_39 (qa_in_v h2) dX7_areWrong_55 ?_
      refine qi_icmp_le (tgt := 63) hC (by decide) dX7_areWrong_56 (fun h => ?_) (fun h => ?_)
      · replace hf := qa_if_t h hf
        refine qi_iconst hC dX7_areWrong_63 kn_iconst_0 ?_
        refine qi_goto (tgt := 77) hC (by decide) dX7_areWrong_64 ?_
        obtain rfl := Option.some.inj hf
        exact qi_iretz hC hQ (congrArg (fun w => (w, m)) hK) rfl dX7_areWrong_77
      · replace hf := qa_if_f h hf
        refine qi_iconst hC dX7_areWrong_59 kn_iconst_1 ?_
        refine qi_goto (tgt := 77) hC (by decide) dX7_areWrong_60 ?_
        obtain rfl := Option.some.inj hf
        exact qi_iretz hC hQ (congrArg (fun w => (w, m)) hK) rfl dX7_areWrong_77
  · replace hf := qa_if_t h hf
    refine qi_aload_n hC 0 rfl rfl dX7_areWrong_4 ?_
    refine qi_getr hC kf_X7_16 sh_36 rfl dX7_areWrong_5 ?_
    refine qi_bipush hC dX7_areWrong_8 kn_bipush_6 ?_
    refine qi_iload_n hC 3 rfl rfl dX7_areWrong_10 ?_
    refine qi_imul hC dX7_areWrong_11 ?_
    obtain ⟨h3, hf⟩ := qa_ck_e hf
    refine qi_iald hC rfl sh_39 (qa_in_v h3) dX7_areWrong_12 ?_
    refine qi_aload_n hC 0 rfl rfl dX7_areWrong_13 ?_
    refine qi_getr hC kf_X7_16 sh_36 rfl dX7_areWrong_14 ?_
    refine qi_bipush hC dX7_areWrong_17 kn_bipush_6 ?_
    refine qi_iload_n hC 2 rfl rfl dX7_areWrong_19 ?_
    refine qi_imul hC dX7_areWrong_20 ?_
    obtain ⟨h4, hf⟩ := qa_ck_e hf
    refine qi_iald hC rfl sh_39 (qa_in_v h4) dX7_areWrong_21 ?_
    refine qi_icmp_ge (tgt := 29) hC (by decide) dX7_areWrong_22 (fun h => ?_) (fun h => ?_)
    · replace hf := qa_if_t h hf
      refine qi_iconst hC dX7_areWrong_29 kn_iconst_0 ?_
      refine qi_goto (tgt := 77) hC (by decide) dX7_areWrong_30 ?_
      obtain rfl := Option.some.inj hf
      exact qi_iretz hC hQ (congrArg (fun w => (w, m)) hK) rfl dX7_areWrong_77
    · replace hf := qa_if_f h hf
      refine qi_iconst hC dX7_areWrong_25 kn_iconst_1 ?_
      refine qi_goto (tgt := 77) hC (by decide) dX7_areWrong_26 ?_
      obtain rfl := Option.some.inj hf
      exact qi_iretz hC hQ (congrArg (fun w => (w, m)) hK) rfl dX7_areWrong_77
set_option maxRecDepth 100000 in
set_option maxHeartbeats 4000000 in
theorem t_X7_turnsOver_2 {X : qaX} {l : Launch} {Y : qaY} {fin : qaM} (hC : QC X l Y cX7_turnsOver RX7 3 1) (hQ : QRv X Y fin) {m : qaM} {v1 : Int32} {z : ((qaM × Int32) ⊕ (qaM))} (hf : b_X7_turnsOver_2 m v1 = some z) (hK : (qa_K (fun s => QG X Y 3 s.1 2 [(0, .ref (Y.2.2.1 36)), (1, .int s.2)] []) (qa_eq fin)) z) : QG X Y 3 m 2 [(0, .ref (Y.2.2.1 36)), (1, .int v1)] [] := by
  unfold b_X7_turnsOver_2 at hf
  refine qi_iload_n hC 1 rfl rfl dX7_turnsOver_2 ?_
  refine qi_aload_n hC 0 rfl rfl dX7_turnsOver_3 ?_
  refine qi_geti hC kf_X7_94 sh_36 rfl dX7_turnsOver_4 ?_
  refine qi_iconst hC dX7_turnsOver_7 kn_iconst_2 ?_
  refine qi_idiv hC (by decide) dX7_turnsOver_8 ?_
  refine qi_icmp_ge (tgt := 58) hC (by decide) dX7_turnsOver_9 (fun h => ?_) (fun h => ?_)
  · replace hf := qa_if_t h hf
    obtain ⟨z, rfl, hg⟩ := qa_inr_e hf; have hf := hg
    obtain rfl := Option.some.inj hf
    exact qi_vret hC hQ hK dX7_turnsOver_58
  · replace hf := qa_if_f h hf
    refine qi_aload_n hC 0 rfl rfl dX7_turnsOver_12 ?_
    refine qi_getr hC kf_X7_19 sh_36 rfl dX7_turnsOver_13 ?_
    refine qi_iload_n hC 1 rfl rfl dX7_turnsOver_16 ?_
    obtain ⟨h1, hf⟩ := qa_ck_e hf
    refine qi_iald hC rfl sh_40 (qa_in_v h1) dX7_turnsOver_17 ?_
    obtain ⟨x2, ex2, hf⟩ := qa_lt_e hf
    refine qi_nmi hC ex2 ?_
    refine qi_istore_n hC rfl (by decide) rfl dX7_turnsOver_18 ?_
    refine qi_aload_n hC 1 rfl rfl dX7_turnsOver_19 ?_
    refine qi_getr hC kf_X7_19 sh_36 rfl dX7_turnsOver_20 ?_
    refine qi_iload_n hC 2 rfl rfl dX7_turnsOver_23 ?_
    refine qi_aload_n hC 1 rfl rfl dX7_turnsOver_24 ?_
    refine qi_getr hC kf_X7_19 sh_36 rfl dX7_turnsOver_25 ?_
    refine qi_aload_n hC 1 rfl rfl dX7_turnsOver_28 ?_
    refine qi_geti hC kf_X7_94 sh_36 rfl dX7_turnsOver_29 ?_
    refine qi_iconst hC dX7_turnsOver_32 kn_iconst_1 ?_
    refine qi_isub hC dX7_turnsOver_33 ?_
    refine qi_iload_n hC 2 rfl rfl dX7_turnsOver_34 ?_
    refine qi_isub hC dX7_turnsOver_35 ?_
    obtain ⟨h3, hf⟩ := qa_ck_e hf
    refine qi_iald hC rfl sh_40 (qa_in_v h3) dX7_turnsOver_36 ?_
    obtain ⟨h4, hf⟩ := qa_ck_e hf
    obtain ⟨m5, em5, hf⟩ := qa_lt_e hf
    refine qi_iast hC rfl em5 sh_40 (qa_in_v h4) dX7_turnsOver_37 ?_
    refine qi_aload_n hC 1 rfl rfl dX7_turnsOver_38 ?_
    refine qi_getr hC kf_X7_19 sh_36 rfl dX7_turnsOver_39 ?_
    refine qi_aload_n hC 1 rfl rfl dX7_turnsOver_42 ?_
    refine qi_geti hC kf_X7_94 sh_36 rfl dX7_turnsOver_43 ?_
    refine qi_iconst hC dX7_turnsOver_46 kn_iconst_1 ?_
    refine qi_isub hC dX7_turnsOver_47 ?_
    refine qi_iload_n hC 2 rfl rfl dX7_turnsOver_48 ?_
    refine qi_isub hC dX7_turnsOver_49 ?_
    refine qi_iload_n hC 0 rfl rfl dX7_turnsOver_50 ?_
    obtain ⟨h6, hf⟩ := qa_ck_e hf
    obtain ⟨m7, em7, hf⟩ := qa_lt_e hf
    refine qi_iast hC rfl em7 sh_40 (qa_in_v h6) dX7_turnsOver_51 ?_
    obtain ⟨x8, ex8, hf⟩ := qa_lt_e hf
    refine qi_iinc hC (n := 1) (v := x8) 2 rfl ((congrArg (fun q => v1 + q) kn_iconst_1).trans ex8.symm) (by decide) rfl dX7_turnsOver_52 ?_
    refine qi_goto (tgt := 2) hC (by decide) dX7_turnsOver_55 ?_
    obtain rfl := Option.some.inj hf
    refine qi_sub hC [2, 0] rfl ?_
    exact hK
set_option maxRecDepth 100000 in
set_option maxHeartbeats 4000000 in
theorem tn_X7_turnsOver_2 {X : qaX} {l : Launch} {Y : qaY} {fin : qaM} (hC : QC X l Y cX7_turnsOver RX7 3 1) (hQ : QRv X Y fin) {z : (qaM)} (hK : (qa_eq fin) z) : ∀ (n : Nat) (s : qaM × Int32), qa_lp (fun s => b_X7_turnsOver_2 s.1 s.2) n s = some z → QG X Y 3 s.1 2 [(0, .ref (Y.2.2.1 36)), (1, .int s.2)] [] := by
  intro n
  induction n with
  | zero => intro s hf; cases hf
  | succ n ih =>
    intro s hf
    obtain ⟨y, hy, hf⟩ := qa_lp_e hf
    refine t_X7_turnsOver_2 hC hQ hy ?_
    rcases hf with ⟨s', rfl, hf⟩ | rfl
    · exact ih s' hf
    · exact hK
set_option maxRecDepth 100000 in
set_option maxHeartbeats 4000000 in
theorem tl_X7_turnsOver_2 {X : qaX} {l : Launch} {Y : qaY} {fin : qaM} (hC : QC X l Y cX7_turnsOver RX7 3 1) (hQ : QRv X Y fin) {m : qaM} {v1 : Int32} {z : (qaM)} (hf : lp_X7_turnsOver_2 m v1 = some z) (hK : (qa_eq fin) z) : QG X Y 3 m 2 [(0, .ref (Y.2.2.1 36)), (1, .int v1)] [] :=
  tn_X7_turnsOver_2 hC hQ hK qa_F (m, v1) hf
set_option maxRecDepth 100000 in
set_option maxHeartbeats 4000000 in
theorem c_X7_turnsOver (l : Launch) (Y : qaY) (m : qaM) (q : qaM) (hf : f_X7_turnsOver m = some q) : qaMv l Y yX7_turnsOver cX7_turnsOver 3 1 [.ref (Y.2.2.1 36)] m q := by
  refine qa_entv (by decide +kernel) (Nat.le_of_ble_eq_true rfl) fun X hC hQ => ?_
  have hK : qa_eq q q := rfl
  unfold f_X7_turnsOver at hf
  refine qi_iconst hC dX7_turnsOver_0 kn_iconst_0 ?_
  refine qi_istore_n hC rfl (by decide) rfl dX7_turnsOver_1 ?_
  refine qi_sub hC [1, 0] rfl ?_
  exact tl_X7_turnsOver_2 hC hQ hf hK
set_option maxRecDepth 100000 in
set_option maxHeartbeats 4000000 in
theorem t_X7_pileUp_113 {X : qaX} {l : Launch} {Y : qaY} {fin : Int32 × qaM} (hC : QC X l Y cX7_pileUp RX7 5 2) (hQ : QRi X Y (some .int) fin.2 fin.1) {m : qaM} {z : (Int32 × qaM)} (hf : b_X7_pileUp_113 m = some z) (hK : (qa_eq fin) z) : QG X Y 5 m 113 [(0, .ref (Y.2.2.1 36))] [] := by
  unfold b_X7_pileUp_113 at hf
  refine qi_aload_n hC 0 rfl rfl dX7_pileUp_113 ?_
  refine qi_geti hC kf_X7_94 sh_36 rfl dX7_pileUp_114 ?_
  refine qi_if_ne (tgt := 124) hC (by decide) dX7_pileUp_117 (fun h => ?_) (fun h => ?_)
  · replace hf := qa_if_f h hf
    refine qi_aload_n hC 0 rfl rfl dX7_pileUp_124 ?_
    refine qi_getr hC kf_X7_19 sh_36 rfl dX7_pileUp_125 ?_
    refine qi_iconst hC dX7_pileUp_128 kn_iconst_0 ?_
    refine qi_iald hC tn_0 sh_40 vi_0_9 dX7_pileUp_129 ?_
    obtain rfl := Option.some.inj hf
    exact qi_ireti hC hQ hK dX7_pileUp_130
  · replace hf := qa_if_t h hf
    refine qi_iconst hC dX7_pileUp_120 kn_iconst_m1 ?_
    refine qi_goto (tgt := 130) hC (by decide) dX7_pileUp_121 ?_
    obtain rfl := Option.some.inj hf
    exact qi_ireti hC hQ hK dX7_pileUp_130
set_option maxRecDepth 100000 in
set_option maxHeartbeats 4000000 in
theorem t_X7_pileUp_107 {X : qaX} {l : Launch} {Y : qaY} {fin : Int32 × qaM} (hC : QC X l Y cX7_pileUp RX7 5 2) (hQ : QRi X Y (some .int) fin.2 fin.1) {m : qaM} {v1 : Int32} {v2 : Int32} {z : ((qaM × Int32) ⊕ (Int32 × qaM))} (hf : b_X7_pileUp_107 m v1 v2 = some z) (hK : (qa_K (fun s => QG X Y 5 s.1 23 [(0, .ref (Y.2.2.1 36)), (1, .int v1), (2, .int s.2)] []) (qa_eq fin)) z) : QG X Y 5 m 107 [(0, .ref (Y.2.2.1 36)), (1, .int v1), (2, .int v2)] [] := by
  unfold b_X7_pileUp_107 at hf
  obtain ⟨x3, ex3, hf⟩ := qa_lt_e hf
  refine qi_iinc hC (n := 1) (v := x3) 2 rfl ((congrArg (fun q => v2 + q) kn_iconst_1).trans ex3.symm) (by decide) rfl dX7_pileUp_107 ?_
  refine qi_goto (tgt := 23) hC (by decide) dX7_pileUp_110 ?_
  obtain rfl := Option.some.inj hf
  refine qi_sub hC [1, 2, 0] rfl ?_
  exact hK
set_option maxRecDepth 100000 in
set_option maxHeartbeats 4000000 in
theorem t_X7_pileUp_101 {X : qaX} {l : Launch} {Y : qaY} {fin : Int32 × qaM} (hC : QC X l Y cX7_pileUp RX7 5 2) (hQ : QRi X Y (some .int) fin.2 fin.1) {m : qaM} {v1 : Int32} {v2 : Int32} {v3 : Int32} {z : ((qaM × Int32) ⊕ ((qaM × Int32) ⊕ (Int32 × qaM)))} (hf : b_X7_pileUp_101 m v1 v2 v3 = some z) (hK : (qa_K (fun s => QG X Y 5 s.1 43 [(0, .ref (Y.2.2.1 36)), (1, .int v1), (2, .int v2), (3, .int s.2)] []) (qa_K (fun s => QG X Y 5 s.1 23 [(0, .ref (Y.2.2.1 36)), (1, .int v1), (2, .int s.2)] []) (qa_eq fin))) z) : QG X Y 5 m 101 [(0, .ref (Y.2.2.1 36)), (1, .int v1), (2, .int v2), (3, .int v3)] [] := by
  unfold b_X7_pileUp_101 at hf
  obtain ⟨x7, ex7, hf⟩ := qa_lt_e hf
  refine qi_iinc hC (n := -1) (v := x7) 3 rfl ((congrArg (fun q => v3 + q) kn_iconst_m1).trans ex7.symm) (by decide) rfl dX7_pileUp_101 ?_
  refine qi_goto (tgt := 43) hC (by decide) dX7_pileUp_104 ?_
  obtain rfl := Option.some.inj hf
  refine qi_sub hC [1, 2, 3, 0] rfl ?_
  exact hK
set_option maxRecDepth 100000 in
set_option maxHeartbeats 4000000 in
theorem t_X7_pileUp_43 {X : qaX} {l : Launch} {Y : qaY} {fin : Int32 × qaM} (hC : QC X l Y cX7_pileUp RX7 5 2) (hQ : QRi X Y (some .int) fin.2 fin.1) {m : qaM} {v1 : Int32} {v2 : Int32} {v3 : Int32} {z : ((qaM × Int32) ⊕ ((qaM × Int32) ⊕ (Int32 × qaM)))} (hf : b_X7_pileUp_43 m v1 v2 v3 = some z) (hK : (qa_K (fun s => QG X Y 5 s.1 43 [(0, .ref (Y.2.2.1 36)), (1, .int v1), (2, .int v2), (3, .int s.2)] []) (qa_K (fun s => QG X Y 5 s.1 23 [(0, .ref (Y.2.2.1 36)), (1, .int v1), (2, .int s.2)] []) (qa_eq fin))) z) : QG X Y 5 m 43 [(0, .ref (Y.2.2.1 36)), (1, .int v1), (2, .int v2), (3, .int v3)] [] := by
  unfold b_X7_pileUp_43 at hf
  refine qi_iload_n hC 3 rfl rfl dX7_pileUp_43 ?_
  refine qi_if_le (tgt := 107) hC (by decide) dX7_pileUp_44 (fun h => ?_) (fun h => ?_)
  · replace hf := qa_if_t h hf
    obtain ⟨z, rfl, hg⟩ := qa_inr_e hf; have hf := hg
    refine qi_sub hC [0, 1, 2] rfl ?_
    exact t_X7_pileUp_107 hC hQ hf hK
  · replace hf := qa_if_f h hf
    refine qi_aload_n hC 0 rfl rfl dX7_pileUp_47 ?_
    refine qi_iload_n hC 1 rfl rfl dX7_pileUp_48 ?_
    refine qi_aload_n hC 0 rfl rfl dX7_pileUp_49 ?_
    refine qi_getr hC kf_X7_19 sh_36 rfl dX7_pileUp_50 ?_
    refine qi_iload_n hC 3 rfl rfl dX7_pileUp_53 ?_
    refine qi_iconst hC dX7_pileUp_54 kn_iconst_1 ?_
    refine qi_isub hC dX7_pileUp_55 ?_
    obtain ⟨h4, hf⟩ := qa_ck_e hf
    refine qi_iald hC rfl sh_40 (qa_in_v h4) dX7_pileUp_56 ?_
    refine qi_aload_n hC 0 rfl rfl dX7_pileUp_57 ?_
    refine qi_getr hC kf_X7_19 sh_36 rfl dX7_pileUp_58 ?_
    refine qi_iload_n hC 3 rfl rfl dX7_pileUp_61 ?_
    obtain ⟨h5, hf⟩ := qa_ck_e hf
    refine qi_iald hC rfl sh_40 (qa_in_v h5) dX7_pileUp_62 ?_
    obtain ⟨q6, hq6, hf⟩ := Option.bind_eq_some_iff.mp hf
    refine qi_callVi hC (as := [.int v1, .int (m 40 (v3 - (1 : Int32)).toNatClampNeg), .int (m 40 v3.toNatClampNeg)]) (c_X7_areWrong _ _ _ _ _ _ _ hq6) kl_X7_208 sh_36 kc_X7_areWrong rfl rfl (by decide) (by decide) (Nat.le_of_ble_eq_true rfl) dX7_pileUp_63 ?_
    refine qi_if_eq (tgt := 101) hC (by decide) dX7_pileUp_66 (fun h => ?_) (fun h => ?_)
    · replace hf := qa_if_t h hf
      exact t_X7_pileUp_101 hC hQ hf hK
    · replace hf := qa_if_f h hf
      refine qi_aload_n hC 0 rfl rfl dX7_pileUp_69 ?_
      refine qi_getr hC kf_X7_19 sh_36 rfl dX7_pileUp_70 ?_
      refine qi_iload_n hC 3 rfl rfl dX7_pileUp_73 ?_
      obtain ⟨h8, hf⟩ := qa_ck_e hf
      refine qi_iald hC rfl sh_40 (qa_in_v h8) dX7_pileUp_74 ?_
      obtain ⟨x9, ex9, hf⟩ := qa_lt_e hf
      refine qi_nmi hC ex9 ?_
      refine qi_istore hC (by decide) rfl dX7_pileUp_75 ?_
      refine qi_aload_n hC 1 rfl rfl dX7_pileUp_77 ?_
      refine qi_getr hC kf_X7_19 sh_36 rfl dX7_pileUp_78 ?_
      refine qi_iload_n hC 4 rfl rfl dX7_pileUp_81 ?_
      refine qi_aload_n hC 1 rfl rfl dX7_pileUp_82 ?_
      refine qi_getr hC kf_X7_19 sh_36 rfl dX7_pileUp_83 ?_
      refine qi_iload_n hC 4 rfl rfl dX7_pileUp_86 ?_
      refine qi_iconst hC dX7_pileUp_87 kn_iconst_1 ?_
      refine qi_isub hC dX7_pileUp_88 ?_
      obtain ⟨h10, hf⟩ := qa_ck_e hf
      refine qi_iald hC rfl sh_40 (qa_in_v h10) dX7_pileUp_89 ?_
      obtain ⟨h11, hf⟩ := qa_ck_e hf
      obtain ⟨m12, em12, hf⟩ := qa_lt_e hf
      refine qi_iast hC rfl em12 sh_40 (qa_in_v h11) dX7_pileUp_90 ?_
      refine qi_aload_n hC 1 rfl rfl dX7_pileUp_91 ?_
      refine qi_getr hC kf_X7_19 sh_36 rfl dX7_pileUp_92 ?_
      refine qi_iload_n hC 4 rfl rfl dX7_pileUp_95 ?_
      refine qi_iconst hC dX7_pileUp_96 kn_iconst_1 ?_
      refine qi_isub hC dX7_pileUp_97 ?_
      refine qi_iload hC 0 rfl dX7_pileUp_98 ?_
      obtain ⟨h13, hf⟩ := qa_ck_e hf
      obtain ⟨m14, em14, hf⟩ := qa_lt_e hf
      refine qi_iast hC rfl em14 sh_40 (qa_in_v h13) dX7_pileUp_100 ?_
      refine qi_sub hC [1, 2, 3, 4] rfl ?_
      exact t_X7_pileUp_101 hC hQ hf hK
set_option maxRecDepth 100000 in
set_option maxHeartbeats 4000000 in
theorem tn_X7_pileUp_43 {X : qaX} {l : Launch} {Y : qaY} {fin : Int32 × qaM} (hC : QC X l Y cX7_pileUp RX7 5 2) (hQ : QRi X Y (some .int) fin.2 fin.1) {v1 : Int32} {v2 : Int32} {z : ((qaM × Int32) ⊕ (Int32 × qaM))} (hK : (qa_K (fun s => QG X Y 5 s.1 23 [(0, .ref (Y.2.2.1 36)), (1, .int v1), (2, .int s.2)] []) (qa_eq fin)) z) : ∀ (n : Nat) (s : qaM × Int32), qa_lp (fun s => b_X7_pileUp_43 s.1 v1 v2 s.2) n s = some z → QG X Y 5 s.1 43 [(0, .ref (Y.2.2.1 36)), (1, .int v1), (2, .int v2), (3, .int s.2)] [] := by
  intro n
  induction n with
  | zero => intro s hf; cases hf
  | succ n ih =>
    intro s hf
    obtain ⟨y, hy, hf⟩ := qa_lp_e hf
    refine t_X7_pileUp_43 hC hQ hy ?_
    rcases hf with ⟨s', rfl, hf⟩ | rfl
    · exact ih s' hf
    · exact hK
set_option maxRecDepth 100000 in
set_option maxHeartbeats 4000000 in
theorem tl_X7_pileUp_43 {X : qaX} {l : Launch} {Y : qaY} {fin : Int32 × qaM} (hC : QC X l Y cX7_pileUp RX7 5 2) (hQ : QRi X Y (some .int) fin.2 fin.1) {m : qaM} {v1 : Int32} {v2 : Int32} {v3 : Int32} {z : ((qaM × Int32) ⊕ (Int32 × qaM))} (hf : lp_X7_pileUp_43 m v1 v2 v3 = some z) (hK : (qa_K (fun s => QG X Y 5 s.1 23 [(0, .ref (Y.2.2.1 36)), (1, .int v1), (2, .int s.2)] []) (qa_eq fin)) z) : QG X Y 5 m 43 [(0, .ref (Y.2.2.1 36)), (1, .int v1), (2, .int v2), (3, .int v3)] [] :=
  tn_X7_pileUp_43 hC hQ hK qa_F (m, v3) hf
set_option maxRecDepth 100000 in
set_option maxHeartbeats 4000000 in
theorem t_X7_pileUp_23 {X : qaX} {l : Launch} {Y : qaY} {fin : Int32 × qaM} (hC : QC X l Y cX7_pileUp RX7 5 2) (hQ : QRi X Y (some .int) fin.2 fin.1) {m : qaM} {v1 : Int32} {v2 : Int32} {z : ((qaM × Int32) ⊕ (Int32 × qaM))} (hf : b_X7_pileUp_23 m v1 v2 = some z) (hK : (qa_K (fun s => QG X Y 5 s.1 23 [(0, .ref (Y.2.2.1 36)), (1, .int v1), (2, .int s.2)] []) (qa_eq fin)) z) : QG X Y 5 m 23 [(0, .ref (Y.2.2.1 36)), (1, .int v1), (2, .int v2)] [] := by
  unfold b_X7_pileUp_23 at hf
  refine qi_iload_n hC 2 rfl rfl dX7_pileUp_23 ?_
  refine qi_aload_n hC 0 rfl rfl dX7_pileUp_24 ?_
  refine qi_geti hC kf_X7_94 sh_36 rfl dX7_pileUp_25 ?_
  refine qi_icmp_ge (tgt := 113) hC (by decide) dX7_pileUp_28 (fun h => ?_) (fun h => ?_)
  · replace hf := qa_if_t h hf
    obtain ⟨z, rfl, hg⟩ := qa_inr_e hf; have hf := hg
    refine qi_sub hC [0] rfl ?_
    exact t_X7_pileUp_113 hC hQ hf hK
  · replace hf := qa_if_f h hf
    refine qi_iload_n hC 1 rfl rfl dX7_pileUp_31 ?_
    refine qi_iconst hC dX7_pileUp_32 kn_iconst_3 ?_
    refine qi_icmp_ge (tgt := 113) hC (by decide) dX7_pileUp_33 (fun h => ?_) (fun h => ?_)
    · replace hf := qa_if_t h hf
      obtain ⟨z, rfl, hg⟩ := qa_inr_e hf; have hf := hg
      refine qi_sub hC [0] rfl ?_
      exact t_X7_pileUp_113 hC hQ hf hK
    · replace hf := qa_if_f h hf
      refine qi_aload_n hC 0 rfl rfl dX7_pileUp_36 ?_
      refine qi_geti hC kf_X7_94 sh_36 rfl dX7_pileUp_37 ?_
      refine qi_iconst hC dX7_pileUp_40 kn_iconst_1 ?_
      refine qi_isub hC dX7_pileUp_41 ?_
      obtain ⟨x2, ex2, hf⟩ := qa_lt_e hf
      refine qi_nmi hC ex2 ?_
      refine qi_istore_n hC rfl (by decide) rfl dX7_pileUp_42 ?_
      refine qi_sub hC [1, 2, 3, 0] rfl ?_
      exact tl_X7_pileUp_43 hC hQ hf hK
set_option maxRecDepth 100000 in
set_option maxHeartbeats 4000000 in
theorem tn_X7_pileUp_23 {X : qaX} {l : Launch} {Y : qaY} {fin : Int32 × qaM} (hC : QC X l Y cX7_pileUp RX7 5 2) (hQ : QRi X Y (some .int) fin.2 fin.1) {v1 : Int32} {z : (Int32 × qaM)} (hK : (qa_eq fin) z) : ∀ (n : Nat) (s : qaM × Int32), qa_lp (fun s => b_X7_pileUp_23 s.1 v1 s.2) n s = some z → QG X Y 5 s.1 23 [(0, .ref (Y.2.2.1 36)), (1, .int v1), (2, .int s.2)] [] := by
  intro n
  induction n with
  | zero => intro s hf; cases hf
  | succ n ih =>
    intro s hf
    obtain ⟨y, hy, hf⟩ := qa_lp_e hf
    refine t_X7_pileUp_23 hC hQ hy ?_
    rcases hf with ⟨s', rfl, hf⟩ | rfl
    · exact ih s' hf
    · exact hK
set_option maxRecDepth 100000 in
set_option maxHeartbeats 4000000 in
theorem tl_X7_pileUp_23 {X : qaX} {l : Launch} {Y : qaY} {fin : Int32 × qaM} (hC : QC X l Y cX7_pileUp RX7 5 2) (hQ : QRi X Y (some .int) fin.2 fin.1) {m : qaM} {v1 : Int32} {v2 : Int32} {z : (Int32 × qaM)} (hf : lp_X7_pileUp_23 m v1 v2 = some z) (hK : (qa_eq fin) z) : QG X Y 5 m 23 [(0, .ref (Y.2.2.1 36)), (1, .int v1), (2, .int v2)] [] :=
  tn_X7_pileUp_23 hC hQ hK qa_F (m, v2) hf
set_option maxRecDepth 100000 in
set_option maxHeartbeats 4000000 in
theorem t_X7_pileUp_21 {X : qaX} {l : Launch} {Y : qaY} {fin : Int32 × qaM} (hC : QC X l Y cX7_pileUp RX7 5 2) (hQ : QRi X Y (some .int) fin.2 fin.1) {m : qaM} {v1 : Int32} {z : (Int32 × qaM)} (hf : b_X7_pileUp_21 m v1 = some z) (hK : (qa_eq fin) z) : QG X Y 5 m 21 [(0, .ref (Y.2.2.1 36)), (1, .int v1)] [] := by
  unfold b_X7_pileUp_21 at hf
  refine qi_iconst hC dX7_pileUp_21 kn_iconst_1 ?_
  refine qi_istore_n hC rfl (by decide) rfl dX7_pileUp_22 ?_
  refine qi_sub hC [1, 2, 0] rfl ?_
  exact tl_X7_pileUp_23 hC hQ hf hK
set_option maxRecDepth 100000 in
set_option maxHeartbeats 4000000 in
theorem c_X7_pileUp (l : Launch) (Y : qaY) (m : qaM) (v1 : Int32) (q : Int32 × qaM) (hf : f_X7_pileUp m v1 = some q) : qaMi l Y yX7_pileUp cX7_pileUp 5 (some .int) 2 [.ref (Y.2.2.1 36), .int v1] m q.2 q.1 := by
  refine qa_enti (by decide +kernel) (Nat.le_of_ble_eq_true rfl) fun X hC hQ => ?_
  have hK : qa_eq q q := rfl
  unfold f_X7_pileUp at hf
  refine qi_iload_n hC 1 rfl rfl dX7_pileUp_0 ?_
  refine qi_iconst hC dX7_pileUp_1 kn_iconst_0 ?_
  refine qi_iconst hC dX7_pileUp_2 kn_iconst_3 ?_
  obtain ⟨q1, hq1, hf⟩ := Option.bind_eq_some_iff.mp hf
  refine qi_callSi hC (as := [.int v1, .int (0 : Int32), .int (3 : Int32)]) (c_X7_in _ _ _ _ _ _ _ hq1) kl_X7_90 kc_X7_in rfl rfl (by decide) (by decide) (Nat.le_of_ble_eq_true rfl) dX7_pileUp_3 ?_
  refine qi_if_ne (tgt := 12) hC (by decide) dX7_pileUp_6 (fun h => ?_) (fun h => ?_)
  · replace hf := qa_if_f h hf
    refine qi_iload_n hC 1 rfl rfl dX7_pileUp_12 ?_
    refine qi_iconst hC dX7_pileUp_13 kn_iconst_3 ?_
    refine qi_icmp_ne (tgt := 21) hC (by decide) dX7_pileUp_14 (fun h => ?_) (fun h => ?_)
    · replace hf := qa_if_f h hf
      exact t_X7_pileUp_21 hC hQ hf hK
    · replace hf := qa_if_t h hf
      refine qi_aload_n hC 0 rfl rfl dX7_pileUp_17 ?_
      obtain ⟨q15, hq15, hf⟩ := Option.bind_eq_some_iff.mp hf
      refine qi_callVv hC (as := []) (c_X7_turnsOver _ _ _ _ hq15) kl_X7_205 sh_36 kc_X7_turnsOver rfl rfl (by decide) (by decide) (Nat.le_of_ble_eq_true rfl) dX7_pileUp_18 ?_
      exact t_X7_pileUp_21 hC hQ hf hK
  · replace hf := qa_if_t h hf
    refine qi_bipush hC dX7_pileUp_9 kn_bipush_m2 ?_
    obtain rfl := Option.some.inj hf
    exact qi_ireti hC hQ hK dX7_pileUp_11
set_option maxRecDepth 100000 in
set_option maxHeartbeats 4000000 in
theorem t_X7_goesToCloths_36 {X : qaX} {l : Launch} {Y : qaY} {fin : qaM} (hC : QC X l Y cX7_goesToCloths RX7 3 1) (hQ : QRv X Y fin) {m : qaM} {s1 : Int32} {z : (qaM)} (hf : b_X7_goesToCloths_36 m s1 = some z) (hK : (qa_eq fin) z) : QG X Y 3 m 36 [] [.int s1, .ref (Y.2.2.1 36)] := by
  unfold b_X7_goesToCloths_36 at hf
  obtain ⟨m5, em5, hf⟩ := qa_lt_e hf
  refine qi_puti hC em5 kp_X7_211 sh_36 rfl rfl rfl dX7_goesToCloths_36 ?_
  obtain rfl := Option.some.inj hf
  exact qi_vret hC hQ hK dX7_goesToCloths_39
set_option maxRecDepth 100000 in
set_option maxHeartbeats 4000000 in
theorem c_X7_goesToCloths (l : Launch) (Y : qaY) (m : qaM) (v1 : Int32) (v2 : Int32) (q : qaM) (hf : f_X7_goesToCloths m v1 v2 = some q) : qaMv l Y yX7_goesToCloths cX7_goesToCloths 3 1 [.ref (Y.2.2.1 36), .int v1, .int v2] m q := by
  refine qa_entv (by decide +kernel) (Nat.le_of_ble_eq_true rfl) fun X hC hQ => ?_
  have hK : qa_eq q q := rfl
  unfold f_X7_goesToCloths at hf
  refine qi_aload_n hC 0 rfl rfl dX7_goesToCloths_0 ?_
  refine qi_getr hC kf_X7_16 sh_36 rfl dX7_goesToCloths_1 ?_
  refine qi_bipush hC dX7_goesToCloths_4 kn_bipush_6 ?_
  refine qi_iload_n hC 1 rfl rfl dX7_goesToCloths_6 ?_
  refine qi_imul hC dX7_goesToCloths_7 ?_
  refine qi_iconst hC dX7_goesToCloths_8 kn_iconst_5 ?_
  refine qi_iadd hC dX7_goesToCloths_9 ?_
  refine qi_iconst hC dX7_goesToCloths_10 kn_iconst_1 ?_
  obtain ⟨h1, hf⟩ := qa_ck_e hf
  obtain ⟨m2, em2, hf⟩ := qa_lt_e hf
  refine qi_iast hC rfl em2 sh_39 (qa_in_v h1) dX7_goesToCloths_11 ?_
  refine qi_aload_n hC 0 rfl rfl dX7_goesToCloths_12 ?_
  refine qi_getr hC kf_X7_67 sh_36 rfl dX7_goesToCloths_13 ?_
  refine qi_iload_n hC 1 rfl rfl dX7_goesToCloths_16 ?_
  refine qi_iload_n hC 2 rfl rfl dX7_goesToCloths_17 ?_
  obtain ⟨h3, hf⟩ := qa_ck_e hf
  obtain ⟨m4, em4, hf⟩ := qa_lt_e hf
  refine qi_iast hC rfl em4 sh_56 (qa_in_v h3) dX7_goesToCloths_18 ?_
  refine qi_aload_n hC 0 rfl rfl dX7_goesToCloths_19 ?_
  refine qi_aload_n hC 0 rfl rfl dX7_goesToCloths_20 ?_
  refine qi_geti hC kf_X7_211 sh_36 rfl dX7_goesToCloths_21 ?_
  refine qi_iconst hC dX7_goesToCloths_24 kn_iconst_m1 ?_
  refine qi_icmp_ne (tgt := 32) hC (by decide) dX7_goesToCloths_25 (fun h => ?_) (fun h => ?_)
  · replace hf := qa_if_f h hf
    refine qi_aload_n hC 0 rfl rfl dX7_goesToCloths_32 ?_
    refine qi_geti hC kf_X7_211 sh_36 rfl dX7_goesToCloths_33 ?_
    refine qi_sub hC [] rfl ?_
    exact t_X7_goesToCloths_36 hC hQ hf hK
  · replace hf := qa_if_t h hf
    refine qi_iload_n hC 2 rfl rfl dX7_goesToCloths_28 ?_
    refine qi_goto (tgt := 36) hC (by decide) dX7_goesToCloths_29 ?_
    refine qi_sub hC [] rfl ?_
    exact t_X7_goesToCloths_36 hC hQ hf hK
set_option maxRecDepth 100000 in
set_option maxHeartbeats 4000000 in
theorem t_X7_comesBack_61 {X : qaX} {l : Launch} {Y : qaY} {fin : qaM} (hC : QC X l Y cX7_comesBack RX7 3 3) (hQ : QRv X Y fin) {m : qaM} {v1 : Int32} {z : ((qaM × Int32) ⊕ (qaM))} (hf : b_X7_comesBack_61 m v1 = some z) (hK : (qa_K (fun s => QG X Y 3 s.1 2 [(0, .ref (Y.2.2.1 36)), (1, .int s.2)] []) (qa_eq fin)) z) : QG X Y 3 m 61 [(0, .ref (Y.2.2.1 36)), (1, .int v1)] [] := by
  unfold b_X7_comesBack_61 at hf
  obtain ⟨x3, ex3, hf⟩ := qa_lt_e hf
  refine qi_iinc hC (n := 1) (v := x3) 1 rfl ((congrArg (fun q => v1 + q) kn_iconst_1).trans ex3.symm) (by decide) rfl dX7_comesBack_61 ?_
  refine qi_goto (tgt := 2) hC (by decide) dX7_comesBack_64 ?_
  obtain rfl := Option.some.inj hf
  refine qi_sub hC [1, 0] rfl ?_
  exact hK
set_option maxRecDepth 100000 in
set_option maxHeartbeats 4000000 in
theorem t_X7_comesBack_2 {X : qaX} {l : Launch} {Y : qaY} {fin : qaM} (hC : QC X l Y cX7_comesBack RX7 3 3) (hQ : QRv X Y fin) {m : qaM} {v1 : Int32} {z : ((qaM × Int32) ⊕ (qaM))} (hf : b_X7_comesBack_2 m v1 = some z) (hK : (qa_K (fun s => QG X Y 3 s.1 2 [(0, .ref (Y.2.2.1 36)), (1, .int s.2)] []) (qa_eq fin)) z) : QG X Y 3 m 2 [(0, .ref (Y.2.2.1 36)), (1, .int v1)] [] := by
  unfold b_X7_comesBack_2 at hf
  refine qi_iload_n hC 1 rfl rfl dX7_comesBack_2 ?_
  refine qi_aload_n hC 0 rfl rfl dX7_comesBack_3 ?_
  refine qi_geti hC kf_X7_87 sh_36 rfl dX7_comesBack_4 ?_
  refine qi_icmp_ge (tgt := 67) hC (by decide) dX7_comesBack_7 (fun h => ?_) (fun h => ?_)
  · replace hf := qa_if_t h hf
    obtain ⟨z, rfl, hg⟩ := qa_inr_e hf; have hf := hg
    obtain rfl := Option.some.inj hf
    exact qi_vret hC hQ hK dX7_comesBack_67
  · replace hf := qa_if_f h hf
    refine qi_bipush hC dX7_comesBack_10 kn_bipush_6 ?_
    refine qi_iload_n hC 1 rfl rfl dX7_comesBack_12 ?_
    refine qi_imul hC dX7_comesBack_13 ?_
    refine qi_iconst hC dX7_comesBack_14 kn_iconst_4 ?_
    refine qi_iadd hC dX7_comesBack_15 ?_
    obtain ⟨x1, ex1, hf⟩ := qa_lt_e hf
    refine qi_nmi hC ex1 ?_
    refine qi_istore_n hC rfl (by decide) rfl dX7_comesBack_16 ?_
    refine qi_aload_n hC 1 rfl rfl dX7_comesBack_17 ?_
    refine qi_getr hC kf_X7_16 sh_36 rfl dX7_comesBack_18 ?_
    refine qi_iload_n hC 0 rfl rfl dX7_comesBack_21 ?_
    obtain ⟨h2, hf⟩ := qa_ck_e hf
    refine qi_iald hC rfl sh_39 (qa_in_v h2) dX7_comesBack_22 ?_
    refine qi_if_le (tgt := 61) hC (by decide) dX7_comesBack_23 (fun h => ?_) (fun h => ?_)
    · replace hf := qa_if_t h hf
      refine qi_sub hC [1, 2] rfl ?_
      exact t_X7_comesBack_61 hC hQ hf hK
    · replace hf := qa_if_f h hf
      refine qi_aload_n hC 1 rfl rfl dX7_comesBack_26 ?_
      refine qi_getr hC kf_X7_16 sh_36 rfl dX7_comesBack_27 ?_
      refine qi_iload_n hC 0 rfl rfl dX7_comesBack_30 ?_
      refine qi_iconst hC dX7_comesBack_31 kn_iconst_1 ?_
      refine qi_iadd hC dX7_comesBack_32 ?_
      obtain ⟨h4, hf⟩ := qa_ck_e hf
      refine qi_iald hC rfl sh_39 (qa_in_v h4) dX7_comesBack_33 ?_
      refine qi_if_ne (tgt := 61) hC (by decide) dX7_comesBack_34 (fun h => ?_) (fun h => ?_)
      · replace hf := qa_if_f h hf
        refine qi_sub hC [1, 2] rfl ?_
        exact t_X7_comesBack_61 hC hQ hf hK
      · replace hf := qa_if_t h hf
        refine qi_aload_n hC 1 rfl rfl dX7_comesBack_37 ?_
        refine qi_getr hC kf_X7_16 sh_36 rfl dX7_comesBack_38 ?_
        refine qi_iload_n hC 0 rfl rfl dX7_comesBack_41 ?_
        refine qi_dup2 hC rfl rfl dX7_comesBack_42 ?_
        obtain ⟨h5, hf⟩ := qa_ck_e hf
        refine qi_iald hC rfl sh_39 (qa_in_v h5) dX7_comesBack_43 ?_
        refine qi_iconst hC dX7_comesBack_44 kn_iconst_1 ?_
        refine qi_isub hC dX7_comesBack_45 ?_
        obtain ⟨h6, hf⟩ := qa_ck_e hf
        obtain ⟨m7, em7, hf⟩ := qa_lt_e hf
        refine qi_iast hC rfl em7 sh_39 (qa_in_v h6) dX7_comesBack_46 ?_
        refine qi_aload_n hC 1 rfl rfl dX7_comesBack_47 ?_
        refine qi_getr hC kf_X7_16 sh_36 rfl dX7_comesBack_48 ?_
        refine qi_iload_n hC 0 rfl rfl dX7_comesBack_51 ?_
        obtain ⟨h8, hf⟩ := qa_ck_e hf
        refine qi_iald hC rfl sh_39 (qa_in_v h8) dX7_comesBack_52 ?_
        refine qi_if_ne (tgt := 61) hC (by decide) dX7_comesBack_53 (fun h => ?_) (fun h => ?_)
        · replace hf := qa_if_f h hf
          refine qi_sub hC [1, 2] rfl ?_
          exact t_X7_comesBack_61 hC hQ hf hK
        · replace hf := qa_if_t h hf
          refine qi_aload_n hC 1 rfl rfl dX7_comesBack_56 ?_
          refine qi_iload_n hC 2 rfl rfl dX7_comesBack_57 ?_
          obtain ⟨q9, hq9, hf⟩ := Option.bind_eq_some_iff.mp hf
          refine qi_callVv hC (as := [.int v1]) (c_X7_lays _ _ _ _ _ hq9) kl_X7_184 sh_36 kc_X7_lays rfl rfl (by decide) (by decide) (Nat.le_of_ble_eq_true rfl) dX7_comesBack_58 ?_
          refine qi_sub hC [1, 2] rfl ?_
          exact t_X7_comesBack_61 hC hQ hf hK
set_option maxRecDepth 100000 in
set_option maxHeartbeats 4000000 in
theorem tn_X7_comesBack_2 {X : qaX} {l : Launch} {Y : qaY} {fin : qaM} (hC : QC X l Y cX7_comesBack RX7 3 3) (hQ : QRv X Y fin) {z : (qaM)} (hK : (qa_eq fin) z) : ∀ (n : Nat) (s : qaM × Int32), qa_lp (fun s => b_X7_comesBack_2 s.1 s.2) n s = some z → QG X Y 3 s.1 2 [(0, .ref (Y.2.2.1 36)), (1, .int s.2)] [] := by
  intro n
  induction n with
  | zero => intro s hf; cases hf
  | succ n ih =>
    intro s hf
    obtain ⟨y, hy, hf⟩ := qa_lp_e hf
    refine t_X7_comesBack_2 hC hQ hy ?_
    rcases hf with ⟨s', rfl, hf⟩ | rfl
    · exact ih s' hf
    · exact hK
set_option maxRecDepth 100000 in
set_option maxHeartbeats 4000000 in
theorem tl_X7_comesBack_2 {X : qaX} {l : Launch} {Y : qaY} {fin : qaM} (hC : QC X l Y cX7_comesBack RX7 3 3) (hQ : QRv X Y fin) {m : qaM} {v1 : Int32} {z : (qaM)} (hf : lp_X7_comesBack_2 m v1 = some z) (hK : (qa_eq fin) z) : QG X Y 3 m 2 [(0, .ref (Y.2.2.1 36)), (1, .int v1)] [] :=
  tn_X7_comesBack_2 hC hQ hK qa_F (m, v1) hf
set_option maxRecDepth 100000 in
set_option maxHeartbeats 4000000 in
theorem c_X7_comesBack (l : Launch) (Y : qaY) (m : qaM) (q : qaM) (hf : f_X7_comesBack m = some q) : qaMv l Y yX7_comesBack cX7_comesBack 3 3 [.ref (Y.2.2.1 36)] m q := by
  refine qa_entv (by decide +kernel) (Nat.le_of_ble_eq_true rfl) fun X hC hQ => ?_
  have hK : qa_eq q q := rfl
  unfold f_X7_comesBack at hf
  refine qi_iconst hC dX7_comesBack_0 kn_iconst_0 ?_
  refine qi_istore_n hC rfl (by decide) rfl dX7_comesBack_1 ?_
  refine qi_sub hC [1, 0] rfl ?_
  exact tl_X7_comesBack_2 hC hQ hf hK
set_option maxRecDepth 100000 in
set_option maxHeartbeats 4000000 in
theorem t_X7_takesSo_45 {X : qaX} {l : Launch} {Y : qaY} {fin : Int32 × qaM} (hC : QC X l Y cX7_takesSo RX7 5 2) (hQ : QRi X Y (some .int) fin.2 fin.1) {m : qaM} {v1 : Int32} {v2 : Int32} {v3 : Int32} {v4 : Int32} {z : ((qaM × Int32 × Int32) ⊕ (Int32 × qaM))} (hf : b_X7_takesSo_45 m v1 v2 v3 v4 = some z) (hK : (qa_K (fun s => QG X Y 5 s.1 5 [(0, .ref (Y.2.2.1 36)), (1, .int v1), (2, .int v2), (3, .int s.2.1), (4, .int s.2.2)] []) (qa_eq fin)) z) : QG X Y 5 m 45 [(0, .ref (Y.2.2.1 36)), (1, .int v1), (2, .int v2), (3, .int v3), (4, .int v4)] [] := by
  unfold b_X7_takesSo_45 at hf
  obtain ⟨x4, ex4, hf⟩ := qa_lt_e hf
  refine qi_iinc hC (n := 1) (v := x4) 4 rfl ((congrArg (fun q => v4 + q) kn_iconst_1).trans ex4.symm) (by decide) rfl dX7_takesSo_45 ?_
  refine qi_goto (tgt := 5) hC (by decide) dX7_takesSo_48 ?_
  obtain rfl := Option.some.inj hf
  refine qi_sub hC [1, 2, 3, 4, 0] rfl ?_
  exact hK
set_option maxRecDepth 100000 in
set_option maxHeartbeats 4000000 in
theorem t_X7_takesSo_5 {X : qaX} {l : Launch} {Y : qaY} {fin : Int32 × qaM} (hC : QC X l Y cX7_takesSo RX7 5 2) (hQ : QRi X Y (some .int) fin.2 fin.1) {m : qaM} {v1 : Int32} {v2 : Int32} {v3 : Int32} {v4 : Int32} {z : ((qaM × Int32 × Int32) ⊕ (Int32 × qaM))} (hf : b_X7_takesSo_5 m v1 v2 v3 v4 = some z) (hK : (qa_K (fun s => QG X Y 5 s.1 5 [(0, .ref (Y.2.2.1 36)), (1, .int v1), (2, .int v2), (3, .int s.2.1), (4, .int s.2.2)] []) (qa_eq fin)) z) : QG X Y 5 m 5 [(0, .ref (Y.2.2.1 36)), (1, .int v1), (2, .int v2), (3, .int v3), (4, .int v4)] [] := by
  unfold b_X7_takesSo_5 at hf
  refine qi_iload hC 4 rfl dX7_takesSo_5 ?_
  refine qi_iload_n hC 1 rfl rfl dX7_takesSo_7 ?_
  refine qi_icmp_ge (tgt := 51) hC (by decide) dX7_takesSo_8 (fun h => ?_) (fun h => ?_)
  · replace hf := qa_if_t h hf
    refine qi_iload_n hC 3 rfl rfl dX7_takesSo_51 ?_
    obtain ⟨z, rfl, hg⟩ := qa_inr_e hf; have hf := hg
    obtain rfl := Option.some.inj hf
    exact qi_ireti hC hQ hK dX7_takesSo_52
  · replace hf := qa_if_f h hf
    refine qi_aload_n hC 0 rfl rfl dX7_takesSo_11 ?_
    refine qi_geti hC kf_X7_94 sh_36 rfl dX7_takesSo_12 ?_
    refine qi_if_ne (tgt := 31) hC (by decide) dX7_takesSo_15 (fun h => ?_) (fun h => ?_)
    · replace hf := qa_if_f h hf
      refine qi_iload_n hC 3 rfl rfl dX7_takesSo_31 ?_
      refine qi_iconst hC dX7_takesSo_32 kn_iconst_1 ?_
      refine qi_aload_n hC 0 rfl rfl dX7_takesSo_33 ?_
      refine qi_aload_n hC 0 rfl rfl dX7_takesSo_34 ?_
      refine qi_iload_n hC 2 rfl rfl dX7_takesSo_35 ?_
      obtain ⟨q1, hq1, hf⟩ := Option.bind_eq_some_iff.mp hf
      refine qi_callVi hC (as := [.int v2]) (c_X7_placeBy _ _ _ _ _ hq1) kl_X7_202 sh_36 kc_X7_placeBy rfl rfl (by decide) (by decide) (Nat.le_of_ble_eq_true rfl) dX7_takesSo_36 ?_
      obtain ⟨q2, hq2, hf⟩ := Option.bind_eq_some_iff.mp hf
      refine qi_callVi hC (as := [.int q1]) (c_X7_takesFrom _ _ _ _ _ hq2) kl_X7_217 sh_36 kc_X7_takesFrom rfl rfl (by decide) (by decide) (Nat.le_of_ble_eq_true rfl) dX7_takesSo_39 ?_
      refine qi_ishl hC dX7_takesSo_42 ?_
      refine qi_ior hC dX7_takesSo_43 ?_
      obtain ⟨x3, ex3, hf⟩ := qa_lt_e hf
      refine qi_nmi hC ex3 ?_
      refine qi_istore_n hC rfl (by decide) rfl dX7_takesSo_44 ?_
      refine qi_sub hC [1, 2, 3, 0, 4] rfl ?_
      exact t_X7_takesSo_45 hC hQ hf hK
    · replace hf := qa_if_t h hf
      refine qi_aload_n hC 0 rfl rfl dX7_takesSo_18 ?_
      refine qi_dup hC rfl dX7_takesSo_19 ?_
      refine qi_geti hC kf_X7_214 sh_36 rfl dX7_takesSo_20 ?_
      refine qi_iconst hC dX7_takesSo_23 kn_iconst_1 ?_
      refine qi_iadd hC dX7_takesSo_24 ?_
      obtain ⟨m5, em5, hf⟩ := qa_lt_e hf
      refine qi_puti hC em5 kp_X7_214 sh_36 rfl rfl rfl dX7_takesSo_25 ?_
      refine qi_goto (tgt := 45) hC (by decide) dX7_takesSo_28 ?_
      exact t_X7_takesSo_45 hC hQ hf hK
set_option maxRecDepth 100000 in
set_option maxHeartbeats 4000000 in
theorem tn_X7_takesSo_5 {X : qaX} {l : Launch} {Y : qaY} {fin : Int32 × qaM} (hC : QC X l Y cX7_takesSo RX7 5 2) (hQ : QRi X Y (some .int) fin.2 fin.1) {v1 : Int32} {v2 : Int32} {z : (Int32 × qaM)} (hK : (qa_eq fin) z) : ∀ (n : Nat) (s : qaM × Int32 × Int32), qa_lp (fun s => b_X7_takesSo_5 s.1 v1 v2 s.2.1 s.2.2) n s = some z → QG X Y 5 s.1 5 [(0, .ref (Y.2.2.1 36)), (1, .int v1), (2, .int v2), (3, .int s.2.1), (4, .int s.2.2)] [] := by
  intro n
  induction n with
  | zero => intro s hf; cases hf
  | succ n ih =>
    intro s hf
    obtain ⟨y, hy, hf⟩ := qa_lp_e hf
    refine t_X7_takesSo_5 hC hQ hy ?_
    rcases hf with ⟨s', rfl, hf⟩ | rfl
    · exact ih s' hf
    · exact hK
set_option maxRecDepth 100000 in
set_option maxHeartbeats 4000000 in
theorem tl_X7_takesSo_5 {X : qaX} {l : Launch} {Y : qaY} {fin : Int32 × qaM} (hC : QC X l Y cX7_takesSo RX7 5 2) (hQ : QRi X Y (some .int) fin.2 fin.1) {m : qaM} {v1 : Int32} {v2 : Int32} {v3 : Int32} {v4 : Int32} {z : (Int32 × qaM)} (hf : lp_X7_takesSo_5 m v1 v2 v3 v4 = some z) (hK : (qa_eq fin) z) : QG X Y 5 m 5 [(0, .ref (Y.2.2.1 36)), (1, .int v1), (2, .int v2), (3, .int v3), (4, .int v4)] [] :=
  tn_X7_takesSo_5 hC hQ hK qa_F (m, v3, v4) hf
set_option maxRecDepth 100000 in
set_option maxHeartbeats 4000000 in
theorem c_X7_takesSo (l : Launch) (Y : qaY) (m : qaM) (v1 : Int32) (v2 : Int32) (q : Int32 × qaM) (hf : f_X7_takesSo m v1 v2 = some q) : qaMi l Y yX7_takesSo cX7_takesSo 5 (some .int) 2 [.ref (Y.2.2.1 36), .int v1, .int v2] m q.2 q.1 := by
  refine qa_enti (by decide +kernel) (Nat.le_of_ble_eq_true rfl) fun X hC hQ => ?_
  have hK : qa_eq q q := rfl
  unfold f_X7_takesSo at hf
  refine qi_iconst hC dX7_takesSo_0 kn_iconst_0 ?_
  refine qi_istore_n hC rfl (by decide) rfl dX7_takesSo_1 ?_
  refine qi_iconst hC dX7_takesSo_2 kn_iconst_0 ?_
  refine qi_istore hC (by decide) rfl dX7_takesSo_3 ?_
  refine qi_sub hC [2, 3, 4, 1, 0] rfl ?_
  exact tl_X7_takesSo_5 hC hQ hf hK
set_option maxRecDepth 100000 in
set_option maxHeartbeats 4000000 in
theorem t_X7_lie_2 {X : qaX} {l : Launch} {Y : qaY} {fin : qaM} (hC : QC X l Y cX7_lie RX7 3 5) (hQ : QRv X Y fin) {m : qaM} {v1 : Int32} {z : ((qaM × Int32) ⊕ (qaM))} (hf : b_X7_lie_2 m v1 = some z) (hK : (qa_K (fun s => QG X Y 3 s.1 2 [(0, .ref (Y.2.2.1 36)), (1, .int s.2)] []) (qa_eq fin)) z) : QG X Y 3 m 2 [(0, .ref (Y.2.2.1 36)), (1, .int v1)] [] := by
  unfold b_X7_lie_2 at hf
  refine qi_iload_n hC 1 rfl rfl dX7_lie_2 ?_
  refine qi_aload_n hC 0 rfl rfl dX7_lie_3 ?_
  refine qi_geti hC kf_X7_94 sh_36 rfl dX7_lie_4 ?_
  refine qi_icmp_ge (tgt := 84) hC (by decide) dX7_lie_7 (fun h => ?_) (fun h => ?_)
  · replace hf := qa_if_t h hf
    obtain ⟨z, rfl, hg⟩ := qa_inr_e hf; have hf := hg
    obtain rfl := Option.some.inj hf
    exact qi_vret hC hQ hK dX7_lie_84
  · replace hf := qa_if_f h hf
    refine qi_bipush hC dX7_lie_10 kn_bipush_6 ?_
    refine qi_aload_n hC 0 rfl rfl dX7_lie_12 ?_
    refine qi_getr hC kf_X7_19 sh_36 rfl dX7_lie_13 ?_
    refine qi_iload_n hC 1 rfl rfl dX7_lie_16 ?_
    obtain ⟨h1, hf⟩ := qa_ck_e hf
    refine qi_iald hC rfl sh_40 (qa_in_v h1) dX7_lie_17 ?_
    refine qi_imul hC dX7_lie_18 ?_
    obtain ⟨x2, ex2, hf⟩ := qa_lt_e hf
    refine qi_nmi hC ex2 ?_
    refine qi_istore_n hC rfl (by decide) rfl dX7_lie_19 ?_
    refine qi_aload_n hC 1 rfl rfl dX7_lie_20 ?_
    refine qi_getr hC kf_X7_16 sh_36 rfl dX7_lie_21 ?_
    refine qi_iload_n hC 0 rfl rfl dX7_lie_24 ?_
    refine qi_iconst hC dX7_lie_25 kn_iconst_1 ?_
    refine qi_iadd hC dX7_lie_26 ?_
    refine qi_aload_n hC 1 rfl rfl dX7_lie_27 ?_
    refine qi_getr hC kf_X7_16 sh_36 rfl dX7_lie_28 ?_
    refine qi_iload_n hC 0 rfl rfl dX7_lie_31 ?_
    refine qi_iconst hC dX7_lie_32 kn_iconst_1 ?_
    refine qi_iadd hC dX7_lie_33 ?_
    obtain ⟨h3, hf⟩ := qa_ck_e hf
    refine qi_iald hC rfl sh_39 (qa_in_v h3) dX7_lie_34 ?_
    refine qi_aload_n hC 1 rfl rfl dX7_lie_35 ?_
    refine qi_aload_n hC 1 rfl rfl dX7_lie_36 ?_
    refine qi_getr hC kf_X7_19 sh_36 rfl dX7_lie_37 ?_
    refine qi_iload_n hC 2 rfl rfl dX7_lie_40 ?_
    obtain ⟨h4, hf⟩ := qa_ck_e hf
    refine qi_iald hC rfl sh_40 (qa_in_v h4) dX7_lie_41 ?_
    obtain ⟨q5, hq5, hf⟩ := Option.bind_eq_some_iff.mp hf
    refine qi_callVi hC (as := [.int (m 40 v1.toNatClampNeg)]) (c_X7_yellowsOf _ _ _ _ _ hq5) kl_X7_220 sh_36 kc_X7_yellowsOf rfl rfl (by decide) (by decide) (Nat.le_of_ble_eq_true rfl) dX7_lie_42 ?_
    refine qi_iadd hC dX7_lie_45 ?_
    refine qi_iconst hC dX7_lie_46 kn_iconst_0 ?_
    refine qi_bipush hC dX7_lie_47 kn_bipush_99 ?_
    obtain ⟨q6, hq6, hf⟩ := Option.bind_eq_some_iff.mp hf
    refine qi_callSi hC (as := [.int ((m 39 (x2 + (1 : Int32)).toNatClampNeg) + q5.1), .int (0 : Int32), .int (99 : Int32)]) (c_X7_within _ _ _ _ _ _ _ hq6) kl_X7_173 kc_X7_within rfl rfl (by decide) (by decide) (Nat.le_of_ble_eq_true rfl) dX7_lie_49 ?_
    obtain ⟨h7, hf⟩ := qa_ck_e hf
    obtain ⟨m8, em8, hf⟩ := qa_lt_e hf
    refine qi_iast hC rfl em8 sh_39 (qa_in_v h7) dX7_lie_52 ?_
    refine qi_aload_n hC 1 rfl rfl dX7_lie_53 ?_
    refine qi_getr hC kf_X7_16 sh_36 rfl dX7_lie_54 ?_
    refine qi_iload_n hC 0 rfl rfl dX7_lie_57 ?_
    refine qi_iconst hC dX7_lie_58 kn_iconst_2 ?_
    refine qi_iadd hC dX7_lie_59 ?_
    refine qi_aload_n hC 1 rfl rfl dX7_lie_60 ?_
    refine qi_getr hC kf_X7_16 sh_36 rfl dX7_lie_61 ?_
    refine qi_iload_n hC 0 rfl rfl dX7_lie_64 ?_
    refine qi_iconst hC dX7_lie_65 kn_iconst_2 ?_
    refine qi_iadd hC dX7_lie_66 ?_
    obtain ⟨h9, hf⟩ := qa_ck_e hf
    refine qi_iald hC rfl sh_39 (qa_in_v h9) dX7_lie_67 ?_
    refine qi_iconst hC dX7_lie_68 kn_iconst_1 ?_
    refine qi_iadd hC dX7_lie_69 ?_
    refine qi_iconst hC dX7_lie_70 kn_iconst_0 ?_
    refine qi_sipush hC dX7_lie_71 kn_sipush_999 ?_
    obtain ⟨q10, hq10, hf⟩ := Option.bind_eq_some_iff.mp hf
    refine qi_callSi hC (as := [.int ((m8 39 (x2 + (2 : Int32)).toNatClampNeg) + (1 : Int32)), .int (0 : Int32), .int (999 : Int32)]) (c_X7_within _ _ _ _ _ _ _ hq10) kl_X7_173 kc_X7_within rfl rfl (by decide) (by decide) (Nat.le_of_ble_eq_true rfl) dX7_lie_74 ?_
    obtain ⟨h11, hf⟩ := qa_ck_e hf
    obtain ⟨m12, em12, hf⟩ := qa_lt_e hf
    refine qi_iast hC rfl em12 sh_39 (qa_in_v h11) dX7_lie_77 ?_
    obtain ⟨x13, ex13, hf⟩ := qa_lt_e hf
    refine qi_iinc hC (n := 1) (v := x13) 2 rfl ((congrArg (fun q => v1 + q) kn_iconst_1).trans ex13.symm) (by decide) rfl dX7_lie_78 ?_
    refine qi_goto (tgt := 2) hC (by decide) dX7_lie_81 ?_
    obtain rfl := Option.some.inj hf
    refine qi_sub hC [2, 0] rfl ?_
    exact hK
set_option maxRecDepth 100000 in
set_option maxHeartbeats 4000000 in
theorem tn_X7_lie_2 {X : qaX} {l : Launch} {Y : qaY} {fin : qaM} (hC : QC X l Y cX7_lie RX7 3 5) (hQ : QRv X Y fin) {z : (qaM)} (hK : (qa_eq fin) z) : ∀ (n : Nat) (s : qaM × Int32), qa_lp (fun s => b_X7_lie_2 s.1 s.2) n s = some z → QG X Y 3 s.1 2 [(0, .ref (Y.2.2.1 36)), (1, .int s.2)] [] := by
  intro n
  induction n with
  | zero => intro s hf; cases hf
  | succ n ih =>
    intro s hf
    obtain ⟨y, hy, hf⟩ := qa_lp_e hf
    refine t_X7_lie_2 hC hQ hy ?_
    rcases hf with ⟨s', rfl, hf⟩ | rfl
    · exact ih s' hf
    · exact hK
set_option maxRecDepth 100000 in
set_option maxHeartbeats 4000000 in
theorem tl_X7_lie_2 {X : qaX} {l : Launch} {Y : qaY} {fin : qaM} (hC : QC X l Y cX7_lie RX7 3 5) (hQ : QRv X Y fin) {m : qaM} {v1 : Int32} {z : (qaM)} (hf : lp_X7_lie_2 m v1 = some z) (hK : (qa_eq fin) z) : QG X Y 3 m 2 [(0, .ref (Y.2.2.1 36)), (1, .int v1)] [] :=
  tn_X7_lie_2 hC hQ hK qa_F (m, v1) hf
set_option maxRecDepth 100000 in
set_option maxHeartbeats 4000000 in
theorem c_X7_lie (l : Launch) (Y : qaY) (m : qaM) (q : qaM) (hf : f_X7_lie m = some q) : qaMv l Y yX7_lie cX7_lie 3 5 [.ref (Y.2.2.1 36)] m q := by
  refine qa_entv (by decide +kernel) (Nat.le_of_ble_eq_true rfl) fun X hC hQ => ?_
  have hK : qa_eq q q := rfl
  unfold f_X7_lie at hf
  refine qi_iconst hC dX7_lie_0 kn_iconst_0 ?_
  refine qi_istore_n hC rfl (by decide) rfl dX7_lie_1 ?_
  refine qi_sub hC [1, 0] rfl ?_
  exact tl_X7_lie_2 hC hQ hf hK
set_option maxRecDepth 100000 in
set_option maxHeartbeats 4000000 in
theorem t_X7_washes_115 {X : qaX} {l : Launch} {Y : qaY} {fin : qaM} (hC : QC X l Y cX7_washes RX7 5 5) (hQ : QRv X Y fin) {m : qaM} {v1 : Int32} {v2 : Int32} {v3 : Int32} {z : ((qaM × Int32) ⊕ (qaM))} (hf : b_X7_washes_115 m v1 v2 v3 = some z) (hK : (qa_K (fun s => QG X Y 5 s.1 2 [(0, .ref (Y.2.2.1 36)), (1, .int v1), (2, .int v2), (3, .int s.2)] []) (qa_eq fin)) z) : QG X Y 5 m 115 [(0, .ref (Y.2.2.1 36)), (1, .int v1), (2, .int v2), (3, .int v3)] [] := by
  unfold b_X7_washes_115 at hf
  obtain ⟨x1, ex1, hf⟩ := qa_lt_e hf
  refine qi_iinc hC (n := 1) (v := x1) 3 rfl ((congrArg (fun q => v3 + q) kn_iconst_1).trans ex1.symm) (by decide) rfl dX7_washes_115 ?_
  refine qi_goto (tgt := 2) hC (by decide) dX7_washes_118 ?_
  obtain rfl := Option.some.inj hf
  refine qi_sub hC [1, 2, 3, 0] rfl ?_
  exact hK
set_option maxRecDepth 100000 in
set_option maxHeartbeats 4000000 in
theorem t_X7_washes_2 {X : qaX} {l : Launch} {Y : qaY} {fin : qaM} (hC : QC X l Y cX7_washes RX7 5 5) (hQ : QRv X Y fin) {m : qaM} {v1 : Int32} {v2 : Int32} {v3 : Int32} {z : ((qaM × Int32) ⊕ (qaM))} (hf : b_X7_washes_2 m v1 v2 v3 = some z) (hK : (qa_K (fun s => QG X Y 5 s.1 2 [(0, .ref (Y.2.2.1 36)), (1, .int v1), (2, .int v2), (3, .int s.2)] []) (qa_eq fin)) z) : QG X Y 5 m 2 [(0, .ref (Y.2.2.1 36)), (1, .int v1), (2, .int v2), (3, .int v3)] [] := by
  unfold b_X7_washes_2 at hf
  refine qi_iload_n hC 3 rfl rfl dX7_washes_2 ?_
  refine qi_aload_n hC 0 rfl rfl dX7_washes_3 ?_
  refine qi_geti hC kf_X7_87 sh_36 rfl dX7_washes_4 ?_
  refine qi_icmp_ge (tgt := 121) hC (by decide) dX7_washes_7 (fun h => ?_) (fun h => ?_)
  · replace hf := qa_if_t h hf
    obtain ⟨z, rfl, hg⟩ := qa_inr_e hf; have hf := hg
    obtain rfl := Option.some.inj hf
    exact qi_vret hC hQ hK dX7_washes_121
  · replace hf := qa_if_f h hf
    refine qi_iload_n hC 1 rfl rfl dX7_washes_10 ?_
    refine qi_iload_n hC 3 rfl rfl dX7_washes_11 ?_
    refine qi_ishr hC dX7_washes_12 ?_
    refine qi_iconst hC dX7_washes_13 kn_iconst_1 ?_
    refine qi_iand hC dX7_washes_14 ?_
    refine qi_iconst hC dX7_washes_15 kn_iconst_1 ?_
    refine qi_icmp_ne (tgt := 115) hC (by decide) dX7_washes_16 (fun h => ?_) (fun h => ?_)
    · replace hf := qa_if_f h hf
      exact t_X7_washes_115 hC hQ hf hK
    · replace hf := qa_if_t h hf
      refine qi_bipush hC dX7_washes_19 kn_bipush_6 ?_
      refine qi_iload_n hC 3 rfl rfl dX7_washes_21 ?_
      refine qi_imul hC dX7_washes_22 ?_
      obtain ⟨x2, ex2, hf⟩ := qa_lt_e hf
      refine qi_nmi hC ex2 ?_
      refine qi_istore hC (by decide) rfl dX7_washes_23 ?_
      refine qi_aload_n hC 1 rfl rfl dX7_washes_25 ?_
      refine qi_getr hC kf_X7_16 sh_36 rfl dX7_washes_26 ?_
      refine qi_iload hC 0 rfl dX7_washes_29 ?_
      refine qi_aload_n hC 1 rfl rfl dX7_washes_31 ?_
      refine qi_getr hC kf_X7_16 sh_36 rfl dX7_washes_32 ?_
      refine qi_iload hC 0 rfl dX7_washes_35 ?_
      obtain ⟨h3, hf⟩ := qa_ck_e hf
      refine qi_iald hC rfl sh_39 (qa_in_v h3) dX7_washes_37 ?_
      refine qi_aload_n hC 1 rfl rfl dX7_washes_38 ?_
      refine qi_iload_n hC 4 rfl rfl dX7_washes_39 ?_
      obtain ⟨q4, hq4, hf⟩ := Option.bind_eq_some_iff.mp hf
      refine qi_callVi hC (as := [.int v3]) (c_X7_wearsOf _ _ _ _ _ hq4) kl_X7_223 sh_36 kc_X7_wearsOf rfl rfl (by decide) (by decide) (Nat.le_of_ble_eq_true rfl) dX7_washes_40 ?_
      refine qi_iadd hC dX7_washes_43 ?_
      refine qi_iconst hC dX7_washes_44 kn_iconst_0 ?_
      refine qi_sipush hC dX7_washes_45 kn_sipush_999 ?_
      obtain ⟨q5, hq5, hf⟩ := Option.bind_eq_some_iff.mp hf
      refine qi_callSi hC (as := [.int ((m 39 x2.toNatClampNeg) + q4.1), .int (0 : Int32), .int (999 : Int32)]) (c_X7_within _ _ _ _ _ _ _ hq5) kl_X7_173 kc_X7_within rfl rfl (by decide) (by decide) (Nat.le_of_ble_eq_true rfl) dX7_washes_48 ?_
      obtain ⟨h6, hf⟩ := qa_ck_e hf
      obtain ⟨m7, em7, hf⟩ := qa_lt_e hf
      refine qi_iast hC rfl em7 sh_39 (qa_in_v h6) dX7_washes_51 ?_
      refine qi_aload_n hC 1 rfl rfl dX7_washes_52 ?_
      refine qi_getr hC kf_X7_16 sh_36 rfl dX7_washes_53 ?_
      refine qi_iload hC 0 rfl dX7_washes_56 ?_
      refine qi_iconst hC dX7_washes_58 kn_iconst_2 ?_
      refine qi_iadd hC dX7_washes_59 ?_
      refine qi_iconst hC dX7_washes_60 kn_iconst_0 ?_
      obtain ⟨h8, hf⟩ := qa_ck_e hf
      obtain ⟨m9, em9, hf⟩ := qa_lt_e hf
      refine qi_iast hC rfl em9 sh_39 (qa_in_v h8) dX7_washes_61 ?_
      refine qi_aload_n hC 1 rfl rfl dX7_washes_62 ?_
      refine qi_getr hC kf_X7_16 sh_36 rfl dX7_washes_63 ?_
      refine qi_iload hC 0 rfl dX7_washes_66 ?_
      refine qi_iconst hC dX7_washes_68 kn_iconst_4 ?_
      refine qi_iadd hC dX7_washes_69 ?_
      refine qi_aload_n hC 1 rfl rfl dX7_washes_70 ?_
      refine qi_getr hC kf_X7_22 sh_36 rfl dX7_washes_71 ?_
      refine qi_iconst hC dX7_washes_74 kn_iconst_1 ?_
      refine qi_iald hC tn_1 sh_41 vi_1_4 dX7_washes_75 ?_
      obtain ⟨h10, hf⟩ := qa_ck_e hf
      obtain ⟨m11, em11, hf⟩ := qa_lt_e hf
      refine qi_iast hC rfl em11 sh_39 (qa_in_v h10) dX7_washes_76 ?_
      refine qi_aload_n hC 1 rfl rfl dX7_washes_77 ?_
      refine qi_getr hC kf_X7_16 sh_36 rfl dX7_washes_78 ?_
      refine qi_iload hC 0 rfl dX7_washes_81 ?_
      obtain ⟨h12, hf⟩ := qa_ck_e hf
      refine qi_iald hC rfl sh_39 (qa_in_v h12) dX7_washes_83 ?_
      refine qi_aload_n hC 1 rfl rfl dX7_washes_84 ?_
      refine qi_iload_n hC 4 rfl rfl dX7_washes_85 ?_
      obtain ⟨q13, hq13, hf⟩ := Option.bind_eq_some_iff.mp hf
      refine qi_callVi hC (as := [.int v3]) (c_X7_lastsOf _ _ _ _ _ hq13) kl_X7_190 sh_36 kc_X7_lastsOf rfl rfl (by decide) (by decide) (Nat.le_of_ble_eq_true rfl) dX7_washes_86 ?_
      refine qi_icmp_lt (tgt := 101) hC (by decide) dX7_washes_89 (fun h => ?_) (fun h => ?_)
      · replace hf := qa_if_t h hf
        refine qi_aload_n hC 1 rfl rfl dX7_washes_101 ?_
        refine qi_getr hC kf_X7_22 sh_36 rfl dX7_washes_102 ?_
        refine qi_iconst hC dX7_washes_105 kn_iconst_1 ?_
        refine qi_iald hC tn_1 sh_41 vi_1_4 dX7_washes_106 ?_
        refine qi_if_ne (tgt := 115) hC (by decide) dX7_washes_107 (fun h => ?_) (fun h => ?_)
        · replace hf := qa_if_f h hf
          refine qi_sub hC [1, 2, 3, 4] rfl ?_
          exact t_X7_washes_115 hC hQ hf hK
        · replace hf := qa_if_t h hf
          refine qi_aload_n hC 1 rfl rfl dX7_washes_110 ?_
          refine qi_iload_n hC 4 rfl rfl dX7_washes_111 ?_
          obtain ⟨q14, hq14, hf⟩ := Option.bind_eq_some_iff.mp hf
          refine qi_callVv hC (as := [.int v3]) (c_X7_lays _ _ _ _ _ hq14) kl_X7_184 sh_36 kc_X7_lays rfl rfl (by decide) (by decide) (Nat.le_of_ble_eq_true rfl) dX7_washes_112 ?_
          refine qi_sub hC [1, 2, 3, 4] rfl ?_
          exact t_X7_washes_115 hC hQ hf hK
      · replace hf := qa_if_f h hf
        refine qi_aload_n hC 1 rfl rfl dX7_washes_92 ?_
        refine qi_iload_n hC 4 rfl rfl dX7_washes_93 ?_
        refine qi_iload_n hC 3 rfl rfl dX7_washes_94 ?_
        obtain ⟨q15, hq15, hf⟩ := Option.bind_eq_some_iff.mp hf
        refine qi_callVv hC (as := [.int v3, .int v2]) (c_X7_goesToCloths _ _ _ _ _ _ hq15) kl_X7_226 sh_36 kc_X7_goesToCloths rfl rfl (by decide) (by decide) (Nat.le_of_ble_eq_true rfl) dX7_washes_95 ?_
        refine qi_goto (tgt := 115) hC (by decide) dX7_washes_98 ?_
        refine qi_sub hC [1, 2, 3, 4] rfl ?_
        exact t_X7_washes_115 hC hQ hf hK
set_option maxRecDepth 100000 in
set_option maxHeartbeats 4000000 in
theorem tn_X7_washes_2 {X : qaX} {l : Launch} {Y : qaY} {fin : qaM} (hC : QC X l Y cX7_washes RX7 5 5) (hQ : QRv X Y fin) {v1 : Int32} {v2 : Int32} {z : (qaM)} (hK : (qa_eq fin) z) : ∀ (n : Nat) (s : qaM × Int32), qa_lp (fun s => b_X7_washes_2 s.1 v1 v2 s.2) n s = some z → QG X Y 5 s.1 2 [(0, .ref (Y.2.2.1 36)), (1, .int v1), (2, .int v2), (3, .int s.2)] [] := by
  intro n
  induction n with
  | zero => intro s hf; cases hf
  | succ n ih =>
    intro s hf
    obtain ⟨y, hy, hf⟩ := qa_lp_e hf
    refine t_X7_washes_2 hC hQ hy ?_
    rcases hf with ⟨s', rfl, hf⟩ | rfl
    · exact ih s' hf
    · exact hK
set_option maxRecDepth 100000 in
set_option maxHeartbeats 4000000 in
theorem tl_X7_washes_2 {X : qaX} {l : Launch} {Y : qaY} {fin : qaM} (hC : QC X l Y cX7_washes RX7 5 5) (hQ : QRv X Y fin) {m : qaM} {v1 : Int32} {v2 : Int32} {v3 : Int32} {z : (qaM)} (hf : lp_X7_washes_2 m v1 v2 v3 = some z) (hK : (qa_eq fin) z) : QG X Y 5 m 2 [(0, .ref (Y.2.2.1 36)), (1, .int v1), (2, .int v2), (3, .int v3)] [] :=
  tn_X7_washes_2 hC hQ hK qa_F (m, v3) hf
set_option maxRecDepth 100000 in
set_option maxHeartbeats 4000000 in
theorem c_X7_washes (l : Launch) (Y : qaY) (m : qaM) (v1 : Int32) (v2 : Int32) (q : qaM) (hf : f_X7_washes m v1 v2 = some q) : qaMv l Y yX7_washes cX7_washes 5 5 [.ref (Y.2.2.1 36), .int v1, .int v2] m q := by
  refine qa_entv (by decide +kernel) (Nat.le_of_ble_eq_true rfl) fun X hC hQ => ?_
  have hK : qa_eq q q := rfl
  unfold f_X7_washes at hf
  refine qi_iconst hC dX7_washes_0 kn_iconst_0 ?_
  refine qi_istore_n hC rfl (by decide) rfl dX7_washes_1 ?_
  refine qi_sub hC [1, 2, 3, 0] rfl ?_
  exact tl_X7_washes_2 hC hQ hf hK
set_option maxRecDepth 100000 in
set_option maxHeartbeats 4000000 in
theorem t_X7_sorts_42 {X : qaX} {l : Launch} {Y : qaY} {fin : qaM} (hC : QC X l Y cX7_sorts RX7 3 2) (hQ : QRv X Y fin) {m : qaM} {v1 : Int32} {v2 : Int32} {z : ((qaM × Int32) ⊕ (qaM))} (hf : b_X7_sorts_42 m v1 v2 = some z) (hK : (qa_K (fun s => QG X Y 3 s.1 7 [(0, .ref (Y.2.2.1 36)), (1, .int v1), (2, .int s.2)] []) (qa_eq fin)) z) : QG X Y 3 m 42 [(0, .ref (Y.2.2.1 36)), (1, .int v1), (2, .int v2)] [] := by
  unfold b_X7_sorts_42 at hf
  obtain ⟨x4, ex4, hf⟩ := qa_lt_e hf
  refine qi_iinc hC (n := -1) (v := x4) 2 rfl ((congrArg (fun q => v2 + q) kn_iconst_m1).trans ex4.symm) (by decide) rfl dX7_sorts_42 ?_
  refine qi_goto (tgt := 7) hC (by decide) dX7_sorts_45 ?_
  obtain rfl := Option.some.inj hf
  refine qi_sub hC [1, 2, 0] rfl ?_
  exact hK
set_option maxRecDepth 100000 in
set_option maxHeartbeats 4000000 in
theorem t_X7_sorts_7 {X : qaX} {l : Launch} {Y : qaY} {fin : qaM} (hC : QC X l Y cX7_sorts RX7 3 2) (hQ : QRv X Y fin) {m : qaM} {v1 : Int32} {v2 : Int32} {z : ((qaM × Int32) ⊕ (qaM))} (hf : b_X7_sorts_7 m v1 v2 = some z) (hK : (qa_K (fun s => QG X Y 3 s.1 7 [(0, .ref (Y.2.2.1 36)), (1, .int v1), (2, .int s.2)] []) (qa_eq fin)) z) : QG X Y 3 m 7 [(0, .ref (Y.2.2.1 36)), (1, .int v1), (2, .int v2)] [] := by
  unfold b_X7_sorts_7 at hf
  refine qi_iload_n hC 2 rfl rfl dX7_sorts_7 ?_
  refine qi_if_lt (tgt := 48) hC (by decide) dX7_sorts_8 (fun h => ?_) (fun h => ?_)
  · replace hf := qa_if_t h hf
    obtain ⟨z, rfl, hg⟩ := qa_inr_e hf; have hf := hg
    obtain rfl := Option.some.inj hf
    exact qi_vret hC hQ hK dX7_sorts_48
  · replace hf := qa_if_f h hf
    refine qi_aload_n hC 0 rfl rfl dX7_sorts_11 ?_
    refine qi_getr hC kf_X7_16 sh_36 rfl dX7_sorts_12 ?_
    refine qi_bipush hC dX7_sorts_15 kn_bipush_6 ?_
    refine qi_aload_n hC 0 rfl rfl dX7_sorts_17 ?_
    refine qi_getr hC kf_X7_19 sh_36 rfl dX7_sorts_18 ?_
    refine qi_iload_n hC 2 rfl rfl dX7_sorts_21 ?_
    obtain ⟨h2, hf⟩ := qa_ck_e hf
    refine qi_iald hC rfl sh_40 (qa_in_v h2) dX7_sorts_22 ?_
    refine qi_imul hC dX7_sorts_23 ?_
    refine qi_iconst hC dX7_sorts_24 kn_iconst_1 ?_
    refine qi_iadd hC dX7_sorts_25 ?_
    obtain ⟨h3, hf⟩ := qa_ck_e hf
    refine qi_iald hC rfl sh_39 (qa_in_v h3) dX7_sorts_26 ?_
    refine qi_bipush hC dX7_sorts_27 kn_bipush_99 ?_
    refine qi_icmp_ne (tgt := 42) hC (by decide) dX7_sorts_29 (fun h => ?_) (fun h => ?_)
    · replace hf := qa_if_f h hf
      exact t_X7_sorts_42 hC hQ hf hK
    · replace hf := qa_if_t h hf
      refine qi_aload_n hC 0 rfl rfl dX7_sorts_32 ?_
      refine qi_aload_n hC 0 rfl rfl dX7_sorts_33 ?_
      refine qi_iload_n hC 2 rfl rfl dX7_sorts_34 ?_
      obtain ⟨q5, hq5, hf⟩ := Option.bind_eq_some_iff.mp hf
      refine qi_callVi hC (as := [.int v2]) (c_X7_takesFrom _ _ _ _ _ hq5) kl_X7_217 sh_36 kc_X7_takesFrom rfl rfl (by decide) (by decide) (Nat.le_of_ble_eq_true rfl) dX7_sorts_35 ?_
      refine qi_iload_n hC 1 rfl rfl dX7_sorts_38 ?_
      obtain ⟨q6, hq6, hf⟩ := Option.bind_eq_some_iff.mp hf
      refine qi_callVv hC (as := [.int q5.1, .int v1]) (c_X7_goesToCloths _ _ _ _ _ _ hq6) kl_X7_226 sh_36 kc_X7_goesToCloths rfl rfl (by decide) (by decide) (Nat.le_of_ble_eq_true rfl) dX7_sorts_39 ?_
      exact t_X7_sorts_42 hC hQ hf hK
set_option maxRecDepth 100000 in
set_option maxHeartbeats 4000000 in
theorem tn_X7_sorts_7 {X : qaX} {l : Launch} {Y : qaY} {fin : qaM} (hC : QC X l Y cX7_sorts RX7 3 2) (hQ : QRv X Y fin) {v1 : Int32} {z : (qaM)} (hK : (qa_eq fin) z) : ∀ (n : Nat) (s : qaM × Int32), qa_lp (fun s => b_X7_sorts_7 s.1 v1 s.2) n s = some z → QG X Y 3 s.1 7 [(0, .ref (Y.2.2.1 36)), (1, .int v1), (2, .int s.2)] [] := by
  intro n
  induction n with
  | zero => intro s hf; cases hf
  | succ n ih =>
    intro s hf
    obtain ⟨y, hy, hf⟩ := qa_lp_e hf
    refine t_X7_sorts_7 hC hQ hy ?_
    rcases hf with ⟨s', rfl, hf⟩ | rfl
    · exact ih s' hf
    · exact hK
set_option maxRecDepth 100000 in
set_option maxHeartbeats 4000000 in
theorem tl_X7_sorts_7 {X : qaX} {l : Launch} {Y : qaY} {fin : qaM} (hC : QC X l Y cX7_sorts RX7 3 2) (hQ : QRv X Y fin) {m : qaM} {v1 : Int32} {v2 : Int32} {z : (qaM)} (hf : lp_X7_sorts_7 m v1 v2 = some z) (hK : (qa_eq fin) z) : QG X Y 3 m 7 [(0, .ref (Y.2.2.1 36)), (1, .int v1), (2, .int v2)] [] :=
  tn_X7_sorts_7 hC hQ hK qa_F (m, v2) hf
set_option maxRecDepth 100000 in
set_option maxHeartbeats 4000000 in
theorem c_X7_sorts (l : Launch) (Y : qaY) (m : qaM) (v1 : Int32) (q : qaM) (hf : f_X7_sorts m v1 = some q) : qaMv l Y yX7_sorts cX7_sorts 3 2 [.ref (Y.2.2.1 36), .int v1] m q := by
  refine qa_entv (by decide +kernel) (Nat.le_of_ble_eq_true rfl) fun X hC hQ => ?_
  have hK : qa_eq q q := rfl
  unfold f_X7_sorts at hf
  refine qi_aload_n hC 0 rfl rfl dX7_sorts_0 ?_
  refine qi_geti hC kf_X7_94 sh_36 rfl dX7_sorts_1 ?_
  refine qi_iconst hC dX7_sorts_4 kn_iconst_1 ?_
  refine qi_isub hC dX7_sorts_5 ?_
  obtain ⟨x1, ex1, hf⟩ := qa_lt_e hf
  refine qi_nmi hC ex1 ?_
  refine qi_istore_n hC rfl (by decide) rfl dX7_sorts_6 ?_
  refine qi_sub hC [1, 2, 0] rfl ?_
  exact tl_X7_sorts_7 hC hQ hf hK
set_option maxRecDepth 100000 in
set_option maxHeartbeats 4000000 in
theorem c_X7_weekBy (l : Launch) (Y : qaY) (m : qaM) (v1 : Int32) (v2 : Int32) (v3 : Int32) (q : qaM) (hf : f_X7_weekBy m v1 v2 v3 = some q) : qaMv l Y yX7_weekBy cX7_weekBy 5 6 [.ref (Y.2.2.1 36), .int v1, .int v2, .int v3] m q := by
  refine qa_entv (by decide +kernel) (Nat.le_of_ble_eq_true rfl) fun X hC hQ => ?_
  have hK : qa_eq q q := rfl
  unfold f_X7_weekBy at hf
  refine qi_aload_n hC 0 rfl rfl dX7_weekBy_0 ?_
  obtain ⟨q1, hq1, hf⟩ := Option.bind_eq_some_iff.mp hf
  refine qi_callVv hC (as := []) (c_X7_comesBack _ _ _ _ hq1) kl_X7_229 sh_36 kc_X7_comesBack rfl rfl (by decide) (by decide) (Nat.le_of_ble_eq_true rfl) dX7_weekBy_1 ?_
  refine qi_aload_n hC 0 rfl rfl dX7_weekBy_4 ?_
  refine qi_iload_n hC 2 rfl rfl dX7_weekBy_5 ?_
  refine qi_iload_n hC 3 rfl rfl dX7_weekBy_6 ?_
  obtain ⟨q2, hq2, hf⟩ := Option.bind_eq_some_iff.mp hf
  refine qi_callVi hC (as := [.int v2, .int v3]) (c_X7_takesSo _ _ _ _ _ _ hq2) kl_X7_232 sh_36 kc_X7_takesSo rfl rfl (by decide) (by decide) (Nat.le_of_ble_eq_true rfl) dX7_weekBy_7 ?_
  refine qi_istore hC (by decide) rfl dX7_weekBy_10 ?_
  refine qi_aload_n hC 1 rfl rfl dX7_weekBy_12 ?_
  refine qi_dup hC rfl dX7_weekBy_13 ?_
  refine qi_geti hC kf_X7_235 sh_36 rfl dX7_weekBy_14 ?_
  refine qi_iload hC 0 rfl dX7_weekBy_17 ?_
  refine qi_ior hC dX7_weekBy_19 ?_
  obtain ⟨m3, em3, hf⟩ := qa_lt_e hf
  refine qi_puti hC em3 kp_X7_235 sh_36 rfl rfl rfl dX7_weekBy_20 ?_
  refine qi_aload_n hC 1 rfl rfl dX7_weekBy_23 ?_
  obtain ⟨q4, hq4, hf⟩ := Option.bind_eq_some_iff.mp hf
  refine qi_callVv hC (as := []) (c_X7_lie _ _ _ _ hq4) kl_X7_238 sh_36 kc_X7_lie rfl rfl (by decide) (by decide) (Nat.le_of_ble_eq_true rfl) dX7_weekBy_24 ?_
  refine qi_aload_n hC 1 rfl rfl dX7_weekBy_27 ?_
  refine qi_iload hC 0 rfl dX7_weekBy_28 ?_
  refine qi_iload_n hC 2 rfl rfl dX7_weekBy_30 ?_
  obtain ⟨q5, hq5, hf⟩ := Option.bind_eq_some_iff.mp hf
  refine qi_callVv hC (as := [.int q2.1, .int v1]) (c_X7_washes _ _ _ _ _ _ hq5) kl_X7_241 sh_36 kc_X7_washes rfl rfl (by decide) (by decide) (Nat.le_of_ble_eq_true rfl) dX7_weekBy_31 ?_
  refine qi_aload_n hC 1 rfl rfl dX7_weekBy_34 ?_
  refine qi_iload_n hC 2 rfl rfl dX7_weekBy_35 ?_
  obtain ⟨q6, hq6, hf⟩ := Option.bind_eq_some_iff.mp hf
  refine qi_callVv hC (as := [.int v1]) (c_X7_sorts _ _ _ _ _ hq6) kl_X7_244 sh_36 kc_X7_sorts rfl rfl (by decide) (by decide) (Nat.le_of_ble_eq_true rfl) dX7_weekBy_36 ?_
  refine qi_aload_n hC 1 rfl rfl dX7_weekBy_39 ?_
  refine qi_dup hC rfl dX7_weekBy_40 ?_
  refine qi_geti hC kf_X7_97 sh_36 rfl dX7_weekBy_41 ?_
  refine qi_iconst hC dX7_weekBy_44 kn_iconst_1 ?_
  refine qi_iadd hC dX7_weekBy_45 ?_
  obtain ⟨m7, em7, hf⟩ := qa_lt_e hf
  refine qi_puti hC em7 kp_X7_97 sh_36 rfl rfl rfl dX7_weekBy_46 ?_
  obtain rfl := Option.some.inj hf
  exact qi_vret hC hQ hK dX7_weekBy_49
set_option maxRecDepth 100000 in
set_option maxHeartbeats 4000000 in
theorem t_X7_begins_17 {X : qaX} {l : Launch} {Y : qaY} {fin : qaM} (hC : QC X l Y cX7_begins RX7 2 1) (hQ : QRv X Y fin) {m : qaM} {v1 : Int32} {z : ((qaM × Int32) ⊕ (qaM))} (hf : b_X7_begins_17 m v1 = some z) (hK : (qa_K (fun s => QG X Y 2 s.1 17 [(0, .ref (Y.2.2.1 36)), (1, .int s.2)] []) (qa_eq fin)) z) : QG X Y 2 m 17 [(0, .ref (Y.2.2.1 36)), (1, .int v1)] [] := by
  unfold b_X7_begins_17 at hf
  refine qi_iload_n hC 1 rfl rfl dX7_begins_17 ?_
  refine qi_bipush hC dX7_begins_18 kn_bipush_8 ?_
  refine qi_icmp_ge (tgt := 36) hC (by decide) dX7_begins_20 (fun h => ?_) (fun h => ?_)
  · replace hf := qa_if_t h hf
    obtain ⟨z, rfl, hg⟩ := qa_inr_e hf; have hf := hg
    obtain rfl := Option.some.inj hf
    exact qi_vret hC hQ hK dX7_begins_36
  · replace hf := qa_if_f h hf
    refine qi_aload_n hC 0 rfl rfl dX7_begins_23 ?_
    refine qi_getr hC kf_X7_67 sh_36 rfl dX7_begins_24 ?_
    refine qi_iload_n hC 1 rfl rfl dX7_begins_27 ?_
    refine qi_iconst hC dX7_begins_28 kn_iconst_m1 ?_
    obtain ⟨h4, hf⟩ := qa_ck_e hf
    obtain ⟨m5, em5, hf⟩ := qa_lt_e hf
    refine qi_iast hC rfl em5 sh_56 (qa_in_v h4) dX7_begins_29 ?_
    obtain ⟨x6, ex6, hf⟩ := qa_lt_e hf
    refine qi_iinc hC (n := 1) (v := x6) 1 rfl ((congrArg (fun q => v1 + q) kn_iconst_1).trans ex6.symm) (by decide) rfl dX7_begins_30 ?_
    refine qi_goto (tgt := 17) hC (by decide) dX7_begins_33 ?_
    obtain rfl := Option.some.inj hf
    refine qi_sub hC [1, 0] rfl ?_
    exact hK
set_option maxRecDepth 100000 in
set_option maxHeartbeats 4000000 in
theorem tn_X7_begins_17 {X : qaX} {l : Launch} {Y : qaY} {fin : qaM} (hC : QC X l Y cX7_begins RX7 2 1) (hQ : QRv X Y fin) {z : (qaM)} (hK : (qa_eq fin) z) : ∀ (n : Nat) (s : qaM × Int32), qa_lp (fun s => b_X7_begins_17 s.1 s.2) n s = some z → QG X Y 2 s.1 17 [(0, .ref (Y.2.2.1 36)), (1, .int s.2)] [] := by
  intro n
  induction n with
  | zero => intro s hf; cases hf
  | succ n ih =>
    intro s hf
    obtain ⟨y, hy, hf⟩ := qa_lp_e hf
    refine t_X7_begins_17 hC hQ hy ?_
    rcases hf with ⟨s', rfl, hf⟩ | rfl
    · exact ih s' hf
    · exact hK
set_option maxRecDepth 100000 in
set_option maxHeartbeats 4000000 in
theorem tl_X7_begins_17 {X : qaX} {l : Launch} {Y : qaY} {fin : qaM} (hC : QC X l Y cX7_begins RX7 2 1) (hQ : QRv X Y fin) {m : qaM} {v1 : Int32} {z : (qaM)} (hf : lp_X7_begins_17 m v1 = some z) (hK : (qa_eq fin) z) : QG X Y 2 m 17 [(0, .ref (Y.2.2.1 36)), (1, .int v1)] [] :=
  tn_X7_begins_17 hC hQ hK qa_F (m, v1) hf
set_option maxRecDepth 100000 in
set_option maxHeartbeats 4000000 in
theorem c_X7_begins (l : Launch) (Y : qaY) (m : qaM) (q : qaM) (hf : f_X7_begins m = some q) : qaMv l Y yX7_begins cX7_begins 2 1 [.ref (Y.2.2.1 36)] m q := by
  refine qa_entv (by decide +kernel) (Nat.le_of_ble_eq_true rfl) fun X hC hQ => ?_
  have hK : qa_eq q q := rfl
  unfold f_X7_begins at hf
  refine qi_aload_n hC 0 rfl rfl dX7_begins_0 ?_
  refine qi_iconst hC dX7_begins_1 kn_iconst_0 ?_
  obtain ⟨m1, em1, hf⟩ := qa_lt_e hf
  refine qi_puti hC em1 kp_X7_214 sh_36 rfl rfl rfl dX7_begins_2 ?_
  refine qi_aload_n hC 0 rfl rfl dX7_begins_5 ?_
  refine qi_iconst hC dX7_begins_6 kn_iconst_0 ?_
  obtain ⟨m2, em2, hf⟩ := qa_lt_e hf
  refine qi_puti hC em2 kp_X7_235 sh_36 rfl rfl rfl dX7_begins_7 ?_
  refine qi_aload_n hC 0 rfl rfl dX7_begins_10 ?_
  refine qi_iconst hC dX7_begins_11 kn_iconst_m1 ?_
  obtain ⟨m3, em3, hf⟩ := qa_lt_e hf
  refine qi_puti hC em3 kp_X7_211 sh_36 rfl rfl rfl dX7_begins_12 ?_
  refine qi_iconst hC dX7_begins_15 kn_iconst_0 ?_
  refine qi_istore_n hC rfl (by decide) rfl dX7_begins_16 ?_
  refine qi_sub hC [1, 0] rfl ?_
  exact tl_X7_begins_17 hC hQ hf hK
set_option maxRecDepth 100000 in
set_option maxHeartbeats 4000000 in
theorem c_X7_live (l : Launch) (Y : qaY) (m : qaM) (q : Int32 × qaM) (hf : f_X7_live m = some q) : qaMi l Y yX7_live cX7_live 1 (some .int) 7 [.ref (Y.2.2.1 36)] m q.2 q.1 := by
  refine qa_enti (by decide +kernel) (Nat.le_of_ble_eq_true rfl) fun X hC hQ => ?_
  have hK : qa_eq q q := rfl
  unfold f_X7_live at hf
  refine qi_aload_n hC 0 rfl rfl dX7_live_0 ?_
  refine qi_geti hC kf_X7_97 sh_36 rfl dX7_live_1 ?_
  refine qi_sipush hC dX7_live_4 kn_sipush_999 ?_
  refine qi_icmp_ne (tgt := 13) hC (by decide) dX7_live_7 (fun h => ?_) (fun h => ?_)
  · replace hf := qa_if_f h hf
    refine qi_aload_n hC 0 rfl rfl dX7_live_13 ?_
    obtain ⟨q1, hq1, hf⟩ := Option.bind_eq_some_iff.mp hf
    refine qi_callVv hC (as := []) (c_X7_begins _ _ _ _ hq1) kl_X7_247 sh_36 kc_X7_begins rfl rfl (by decide) (by decide) (Nat.le_of_ble_eq_true rfl) dX7_live_14 ?_
    refine qi_aload_n hC 0 rfl rfl dX7_live_17 ?_
    refine qi_iconst hC dX7_live_18 kn_iconst_0 ?_
    refine qi_aload_n hC 0 rfl rfl dX7_live_19 ?_
    refine qi_getr hC kf_X7_22 sh_36 rfl dX7_live_20 ?_
    refine qi_iconst hC dX7_live_23 kn_iconst_0 ?_
    refine qi_iald hC tn_0 sh_41 vi_0_4 dX7_live_24 ?_
    refine qi_aload_n hC 0 rfl rfl dX7_live_25 ?_
    refine qi_getr hC kf_X7_22 sh_36 rfl dX7_live_26 ?_
    refine qi_iconst hC dX7_live_29 kn_iconst_2 ?_
    refine qi_iald hC tn_2 sh_41 vi_2_4 dX7_live_30 ?_
    obtain ⟨q2, hq2, hf⟩ := Option.bind_eq_some_iff.mp hf
    refine qi_callVv hC (as := [.int (0 : Int32), .int (q1 41 0), .int (q1 41 2)]) (c_X7_weekBy _ _ _ _ _ _ _ hq2) kl_X7_250 sh_36 kc_X7_weekBy rfl rfl (by decide) (by decide) (Nat.le_of_ble_eq_true rfl) dX7_live_31 ?_
    refine qi_aload_n hC 0 rfl rfl dX7_live_34 ?_
    refine qi_geti hC kf_X7_214 sh_36 rfl dX7_live_35 ?_
    obtain rfl := Option.some.inj hf
    exact qi_ireti hC hQ hK dX7_live_38
  · replace hf := qa_if_t h hf
    refine qi_bipush hC dX7_live_10 kn_bipush_m4 ?_
    obtain rfl := Option.some.inj hf
    exact qi_ireti hC hQ hK dX7_live_12
set_option maxRecDepth 100000 in
set_option maxHeartbeats 4000000 in
theorem t_X7_keeps_52 {X : qaX} {l : Launch} {Y : qaY} {fin : qaM} (hC : QC X l Y cX7_keeps RX7 2 2) (hQ : QRv X Y fin) {m : qaM} {z : (qaM)} (hf : b_X7_keeps_52 m = some z) (hK : (qa_eq fin) z) : QG X Y 2 m 52 [(0, .ref (Y.2.2.1 36))] [] := by
  unfold b_X7_keeps_52 at hf
  refine qi_aload_n hC 0 rfl rfl dX7_keeps_52 ?_
  refine qi_aload_n hC 0 rfl rfl dX7_keeps_53 ?_
  refine qi_geti hC kf_X7_94 sh_36 rfl dX7_keeps_54 ?_
  obtain ⟨m1, em1, hf⟩ := qa_lt_e hf
  refine qi_puti hC em1 kp_X7_254 sh_36 rfl rfl rfl dX7_keeps_57 ?_
  refine qi_aload_n hC 0 rfl rfl dX7_keeps_60 ?_
  refine qi_aload_n hC 0 rfl rfl dX7_keeps_61 ?_
  refine qi_geti hC kf_X7_97 sh_36 rfl dX7_keeps_62 ?_
  obtain ⟨m2, em2, hf⟩ := qa_lt_e hf
  refine qi_puti hC em2 kp_X7_257 sh_36 rfl rfl rfl dX7_keeps_65 ?_
  refine qi_aload_n hC 0 rfl rfl dX7_keeps_68 ?_
  obtain ⟨q3, hq3, hf⟩ := Option.bind_eq_some_iff.mp hf
  refine qi_callVv hC (as := []) (c_X7_begins _ _ _ _ hq3) kl_X7_247 sh_36 kc_X7_begins rfl rfl (by decide) (by decide) (Nat.le_of_ble_eq_true rfl) dX7_keeps_69 ?_
  obtain rfl := Option.some.inj hf
  exact qi_vret hC hQ hK dX7_keeps_72
set_option maxRecDepth 100000 in
set_option maxHeartbeats 4000000 in
theorem t_X7_keeps_28 {X : qaX} {l : Launch} {Y : qaY} {fin : qaM} (hC : QC X l Y cX7_keeps RX7 2 2) (hQ : QRv X Y fin) {m : qaM} {v1 : Int32} {z : ((qaM × Int32) ⊕ (qaM))} (hf : b_X7_keeps_28 m v1 = some z) (hK : (qa_K (fun s => QG X Y 2 s.1 28 [(0, .ref (Y.2.2.1 36)), (1, .int s.2)] []) (qa_eq fin)) z) : QG X Y 2 m 28 [(0, .ref (Y.2.2.1 36)), (1, .int v1)] [] := by
  unfold b_X7_keeps_28 at hf
  refine qi_iload_n hC 1 rfl rfl dX7_keeps_28 ?_
  refine qi_bipush hC dX7_keeps_29 kn_bipush_9 ?_
  refine qi_icmp_ge (tgt := 52) hC (by decide) dX7_keeps_31 (fun h => ?_) (fun h => ?_)
  · replace hf := qa_if_t h hf
    obtain ⟨z, rfl, hg⟩ := qa_inr_e hf; have hf := hg
    refine qi_sub hC [0] rfl ?_
    exact t_X7_keeps_52 hC hQ hf hK
  · replace hf := qa_if_f h hf
    refine qi_aload_n hC 0 rfl rfl dX7_keeps_34 ?_
    refine qi_getr hC kf_X7_73 sh_36 rfl dX7_keeps_35 ?_
    refine qi_iload_n hC 1 rfl rfl dX7_keeps_38 ?_
    refine qi_aload_n hC 0 rfl rfl dX7_keeps_39 ?_
    refine qi_getr hC kf_X7_19 sh_36 rfl dX7_keeps_40 ?_
    refine qi_iload_n hC 1 rfl rfl dX7_keeps_43 ?_
    obtain ⟨h4, hf⟩ := qa_ck_e hf
    refine qi_iald hC rfl sh_40 (qa_in_v h4) dX7_keeps_44 ?_
    obtain ⟨h5, hf⟩ := qa_ck_e hf
    obtain ⟨m6, em6, hf⟩ := qa_lt_e hf
    refine qi_iast hC rfl em6 sh_58 (qa_in_v h5) dX7_keeps_45 ?_
    obtain ⟨x7, ex7, hf⟩ := qa_lt_e hf
    refine qi_iinc hC (n := 1) (v := x7) 1 rfl ((congrArg (fun q => v1 + q) kn_iconst_1).trans ex7.symm) (by decide) rfl dX7_keeps_46 ?_
    refine qi_goto (tgt := 28) hC (by decide) dX7_keeps_49 ?_
    obtain rfl := Option.some.inj hf
    refine qi_sub hC [1, 0] rfl ?_
    exact hK
set_option maxRecDepth 100000 in
set_option maxHeartbeats 4000000 in
theorem tn_X7_keeps_28 {X : qaX} {l : Launch} {Y : qaY} {fin : qaM} (hC : QC X l Y cX7_keeps RX7 2 2) (hQ : QRv X Y fin) {z : (qaM)} (hK : (qa_eq fin) z) : ∀ (n : Nat) (s : qaM × Int32), qa_lp (fun s => b_X7_keeps_28 s.1 s.2) n s = some z → QG X Y 2 s.1 28 [(0, .ref (Y.2.2.1 36)), (1, .int s.2)] [] := by
  intro n
  induction n with
  | zero => intro s hf; cases hf
  | succ n ih =>
    intro s hf
    obtain ⟨y, hy, hf⟩ := qa_lp_e hf
    refine t_X7_keeps_28 hC hQ hy ?_
    rcases hf with ⟨s', rfl, hf⟩ | rfl
    · exact ih s' hf
    · exact hK
set_option maxRecDepth 100000 in
set_option maxHeartbeats 4000000 in
theorem tl_X7_keeps_28 {X : qaX} {l : Launch} {Y : qaY} {fin : qaM} (hC : QC X l Y cX7_keeps RX7 2 2) (hQ : QRv X Y fin) {m : qaM} {v1 : Int32} {z : (qaM)} (hf : lp_X7_keeps_28 m v1 = some z) (hK : (qa_eq fin) z) : QG X Y 2 m 28 [(0, .ref (Y.2.2.1 36)), (1, .int v1)] [] :=
  tn_X7_keeps_28 hC hQ hK qa_F (m, v1) hf
set_option maxRecDepth 100000 in
set_option maxHeartbeats 4000000 in
theorem t_X7_keeps_26 {X : qaX} {l : Launch} {Y : qaY} {fin : qaM} (hC : QC X l Y cX7_keeps RX7 2 2) (hQ : QRv X Y fin) {m : qaM} {z : (qaM)} (hf : b_X7_keeps_26 m = some z) (hK : (qa_eq fin) z) : QG X Y 2 m 26 [(0, .ref (Y.2.2.1 36))] [] := by
  unfold b_X7_keeps_26 at hf
  refine qi_iconst hC dX7_keeps_26 kn_iconst_0 ?_
  refine qi_istore_n hC rfl (by decide) rfl dX7_keeps_27 ?_
  refine qi_sub hC [1, 0] rfl ?_
  exact tl_X7_keeps_28 hC hQ hf hK
set_option maxRecDepth 100000 in
set_option maxHeartbeats 4000000 in
theorem t_X7_keeps_2 {X : qaX} {l : Launch} {Y : qaY} {fin : qaM} (hC : QC X l Y cX7_keeps RX7 2 2) (hQ : QRv X Y fin) {m : qaM} {v1 : Int32} {z : ((qaM × Int32) ⊕ (qaM))} (hf : b_X7_keeps_2 m v1 = some z) (hK : (qa_K (fun s => QG X Y 2 s.1 2 [(0, .ref (Y.2.2.1 36)), (1, .int s.2)] []) (qa_eq fin)) z) : QG X Y 2 m 2 [(0, .ref (Y.2.2.1 36)), (1, .int v1)] [] := by
  unfold b_X7_keeps_2 at hf
  refine qi_iload_n hC 1 rfl rfl dX7_keeps_2 ?_
  refine qi_bipush hC dX7_keeps_3 kn_bipush_48 ?_
  refine qi_icmp_ge (tgt := 26) hC (by decide) dX7_keeps_5 (fun h => ?_) (fun h => ?_)
  · replace hf := qa_if_t h hf
    obtain ⟨z, rfl, hg⟩ := qa_inr_e hf; have hf := hg
    refine qi_sub hC [0] rfl ?_
    exact t_X7_keeps_26 hC hQ hf hK
  · replace hf := qa_if_f h hf
    refine qi_aload_n hC 0 rfl rfl dX7_keeps_8 ?_
    refine qi_getr hC kf_X7_70 sh_36 rfl dX7_keeps_9 ?_
    refine qi_iload_n hC 1 rfl rfl dX7_keeps_12 ?_
    refine qi_aload_n hC 0 rfl rfl dX7_keeps_13 ?_
    refine qi_getr hC kf_X7_16 sh_36 rfl dX7_keeps_14 ?_
    refine qi_iload_n hC 1 rfl rfl dX7_keeps_17 ?_
    obtain ⟨h8, hf⟩ := qa_ck_e hf
    refine qi_iald hC rfl sh_39 (qa_in_v h8) dX7_keeps_18 ?_
    obtain ⟨h9, hf⟩ := qa_ck_e hf
    obtain ⟨m10, em10, hf⟩ := qa_lt_e hf
    refine qi_iast hC rfl em10 sh_57 (qa_in_v h9) dX7_keeps_19 ?_
    obtain ⟨x11, ex11, hf⟩ := qa_lt_e hf
    refine qi_iinc hC (n := 1) (v := x11) 1 rfl ((congrArg (fun q => v1 + q) kn_iconst_1).trans ex11.symm) (by decide) rfl dX7_keeps_20 ?_
    refine qi_goto (tgt := 2) hC (by decide) dX7_keeps_23 ?_
    obtain rfl := Option.some.inj hf
    refine qi_sub hC [1, 0] rfl ?_
    exact hK
set_option maxRecDepth 100000 in
set_option maxHeartbeats 4000000 in
theorem tn_X7_keeps_2 {X : qaX} {l : Launch} {Y : qaY} {fin : qaM} (hC : QC X l Y cX7_keeps RX7 2 2) (hQ : QRv X Y fin) {z : (qaM)} (hK : (qa_eq fin) z) : ∀ (n : Nat) (s : qaM × Int32), qa_lp (fun s => b_X7_keeps_2 s.1 s.2) n s = some z → QG X Y 2 s.1 2 [(0, .ref (Y.2.2.1 36)), (1, .int s.2)] [] := by
  intro n
  induction n with
  | zero => intro s hf; cases hf
  | succ n ih =>
    intro s hf
    obtain ⟨y, hy, hf⟩ := qa_lp_e hf
    refine t_X7_keeps_2 hC hQ hy ?_
    rcases hf with ⟨s', rfl, hf⟩ | rfl
    · exact ih s' hf
    · exact hK
set_option maxRecDepth 100000 in
set_option maxHeartbeats 4000000 in
theorem tl_X7_keeps_2 {X : qaX} {l : Launch} {Y : qaY} {fin : qaM} (hC : QC X l Y cX7_keeps RX7 2 2) (hQ : QRv X Y fin) {m : qaM} {v1 : Int32} {z : (qaM)} (hf : lp_X7_keeps_2 m v1 = some z) (hK : (qa_eq fin) z) : QG X Y 2 m 2 [(0, .ref (Y.2.2.1 36)), (1, .int v1)] [] :=
  tn_X7_keeps_2 hC hQ hK qa_F (m, v1) hf
set_option maxRecDepth 100000 in
set_option maxHeartbeats 4000000 in
theorem c_X7_keeps (l : Launch) (Y : qaY) (m : qaM) (q : qaM) (hf : f_X7_keeps m = some q) : qaMv l Y yX7_keeps cX7_keeps 2 2 [.ref (Y.2.2.1 36)] m q := by
  refine qa_entv (by decide +kernel) (Nat.le_of_ble_eq_true rfl) fun X hC hQ => ?_
  have hK : qa_eq q q := rfl
  unfold f_X7_keeps at hf
  refine qi_iconst hC dX7_keeps_0 kn_iconst_0 ?_
  refine qi_istore_n hC rfl (by decide) rfl dX7_keeps_1 ?_
  refine qi_sub hC [1, 0] rfl ?_
  exact tl_X7_keeps_2 hC hQ hf hK
