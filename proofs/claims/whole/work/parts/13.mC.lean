/-! THE MACHINE DOES WHAT THE FUNCTIONS SAY, laid by program -/
set_option maxRecDepth 100000 in
set_option maxHeartbeats 4000000 in
theorem c_X4_adds (l : Launch) (Y : qaY) (m : qaM) (v1 : Int32) (q : qaM) (hf : f_X4_adds m v1 = some q) : qaMv l Y yX4_adds cX4_adds 2 1 [.ref (Y.2.2.1 6), .int v1] m q := by
  refine qa_entv (by decide +kernel) (Nat.le_of_ble_eq_true rfl) fun X hC hQ => ?_
  have hK : qa_eq q q := rfl
  unfold f_X4_adds at hf
  refine qi_aload_n hC 0 rfl rfl dX4_adds_0 ?_
  refine qi_geti hC kf_X4_15 sh_6 rfl dX4_adds_1 ?_
  refine qi_if_lt (tgt := 37) hC (by decide) dX4_adds_4 (fun h => ?_) (fun h => ?_)
  · replace hf := qa_if_t h hf
    obtain rfl := Option.some.inj hf
    exact qi_vret hC hQ hK dX4_adds_37
  · replace hf := qa_if_f h hf
    refine qi_aload_n hC 0 rfl rfl dX4_adds_7 ?_
    refine qi_geti hC kf_X4_15 sh_6 rfl dX4_adds_8 ?_
    refine qi_sipush hC dX4_adds_11 kn_sipush_160 ?_
    refine qi_icmp_ge (tgt := 37) hC (by decide) dX4_adds_14 (fun h => ?_) (fun h => ?_)
    · replace hf := qa_if_t h hf
      obtain rfl := Option.some.inj hf
      exact qi_vret hC hQ hK dX4_adds_37
    · replace hf := qa_if_f h hf
      refine qi_aload_n hC 0 rfl rfl dX4_adds_17 ?_
      refine qi_getr hC kf_X4_9 sh_6 rfl dX4_adds_18 ?_
      refine qi_aload_n hC 0 rfl rfl dX4_adds_21 ?_
      refine qi_geti hC kf_X4_15 sh_6 rfl dX4_adds_22 ?_
      refine qi_iload_n hC 1 rfl rfl dX4_adds_25 ?_
      obtain ⟨h1, hf⟩ := qa_ck_e hf
      obtain ⟨m2, em2, hf⟩ := qa_lt_e hf
      refine qi_iast hC rfl em2 sh_7 (qa_in_v h1) dX4_adds_26 ?_
      refine qi_aload_n hC 0 rfl rfl dX4_adds_27 ?_
      refine qi_dup hC rfl dX4_adds_28 ?_
      refine qi_geti hC kf_X4_15 sh_6 rfl dX4_adds_29 ?_
      refine qi_iconst hC dX4_adds_32 kn_iconst_1 ?_
      refine qi_iadd hC dX4_adds_33 ?_
      obtain ⟨m3, em3, hf⟩ := qa_lt_e hf
      refine qi_puti hC em3 kp_X4_15 sh_6 rfl rfl rfl dX4_adds_34 ?_
      obtain rfl := Option.some.inj hf
      exact qi_vret hC hQ hK dX4_adds_37
set_option maxRecDepth 100000 in
set_option maxHeartbeats 4000000 in
theorem c_X4_byteAt (l : Launch) (Y : qaY) (m : qaM) (v1 : Int32) (q : Int32) (hf : f_X4_byteAt m v1 = some q) : qaMi l Y yX4_byteAt cX4_byteAt 2 (some .int) 1 [.ref (Y.2.2.1 6), .int v1] m m q := by
  refine qa_enti (by decide +kernel) (Nat.le_of_ble_eq_true rfl) fun X hC hQ => ?_
  have hK : qa_eq q q := rfl
  unfold f_X4_byteAt at hf
  refine qi_iload_n hC 1 rfl rfl dX4_byteAt_0 ?_
  refine qi_if_lt (tgt := 28) hC (by decide) dX4_byteAt_1 (fun h => ?_) (fun h => ?_)
  · replace hf := qa_if_t h hf
    refine qi_iconst hC dX4_byteAt_28 kn_iconst_m1 ?_
    obtain rfl := Option.some.inj hf
    exact qi_ireti hC hQ (congrArg (fun w => (w, m)) hK) dX4_byteAt_29
  · replace hf := qa_if_f h hf
    refine qi_iload_n hC 1 rfl rfl dX4_byteAt_4 ?_
    refine qi_aload_n hC 0 rfl rfl dX4_byteAt_5 ?_
    refine qi_geti hC kf_X4_15 sh_6 rfl dX4_byteAt_6 ?_
    refine qi_icmp_ge (tgt := 28) hC (by decide) dX4_byteAt_9 (fun h => ?_) (fun h => ?_)
    · replace hf := qa_if_t h hf
      refine qi_iconst hC dX4_byteAt_28 kn_iconst_m1 ?_
      obtain rfl := Option.some.inj hf
      exact qi_ireti hC hQ (congrArg (fun w => (w, m)) hK) dX4_byteAt_29
    · replace hf := qa_if_f h hf
      refine qi_iload_n hC 1 rfl rfl dX4_byteAt_12 ?_
      refine qi_sipush hC dX4_byteAt_13 kn_sipush_160 ?_
      refine qi_icmp_ge (tgt := 28) hC (by decide) dX4_byteAt_16 (fun h => ?_) (fun h => ?_)
      · replace hf := qa_if_t h hf
        refine qi_iconst hC dX4_byteAt_28 kn_iconst_m1 ?_
        obtain rfl := Option.some.inj hf
        exact qi_ireti hC hQ (congrArg (fun w => (w, m)) hK) dX4_byteAt_29
      · replace hf := qa_if_f h hf
        refine qi_aload_n hC 0 rfl rfl dX4_byteAt_19 ?_
        refine qi_getr hC kf_X4_9 sh_6 rfl dX4_byteAt_20 ?_
        refine qi_iload_n hC 1 rfl rfl dX4_byteAt_23 ?_
        obtain ⟨h1, hf⟩ := qa_ck_e hf
        refine qi_iald hC rfl sh_7 (qa_in_v h1) dX4_byteAt_24 ?_
        refine qi_goto (tgt := 29) hC (by decide) dX4_byteAt_25 ?_
        obtain rfl := Option.some.inj hf
        exact qi_ireti hC hQ (congrArg (fun w => (w, m)) hK) dX4_byteAt_29
set_option maxRecDepth 100000 in
set_option maxHeartbeats 4000000 in
theorem c_X4_isDigit (l : Launch) (Y : qaY) (m : qaM) (v0 : Int32) (q : Int32) (hf : f_X4_isDigit m v0 = some q) : qaMi l Y yX4_isDigit cX4_isDigit 1 (some .boolean) 1 [.int v0] m m q := by
  refine qa_enti (by decide +kernel) (Nat.le_of_ble_eq_true rfl) fun X hC hQ => ?_
  have hK : qa_eq q q := rfl
  unfold f_X4_isDigit at hf
  refine qi_iload_n hC 0 rfl rfl dX4_isDigit_0 ?_
  refine qi_bipush hC dX4_isDigit_1 kn_bipush_48 ?_
  refine qi_icmp_lt (tgt := 16) hC (by decide) dX4_isDigit_3 (fun h => ?_) (fun h => ?_)
  · replace hf := qa_if_t h hf
    refine qi_iconst hC dX4_isDigit_16 kn_iconst_0 ?_
    obtain rfl := Option.some.inj hf
    exact qi_iretz hC hQ (congrArg (fun w => (w, m)) hK) rfl dX4_isDigit_17
  · replace hf := qa_if_f h hf
    refine qi_iload_n hC 0 rfl rfl dX4_isDigit_6 ?_
    refine qi_bipush hC dX4_isDigit_7 kn_bipush_57 ?_
    refine qi_icmp_gt (tgt := 16) hC (by decide) dX4_isDigit_9 (fun h => ?_) (fun h => ?_)
    · replace hf := qa_if_t h hf
      refine qi_iconst hC dX4_isDigit_16 kn_iconst_0 ?_
      obtain rfl := Option.some.inj hf
      exact qi_iretz hC hQ (congrArg (fun w => (w, m)) hK) rfl dX4_isDigit_17
    · replace hf := qa_if_f h hf
      refine qi_iconst hC dX4_isDigit_12 kn_iconst_1 ?_
      refine qi_goto (tgt := 17) hC (by decide) dX4_isDigit_13 ?_
      obtain rfl := Option.some.inj hf
      exact qi_iretz hC hQ (congrArg (fun w => (w, m)) hK) rfl dX4_isDigit_17
set_option maxRecDepth 100000 in
set_option maxHeartbeats 4000000 in
theorem c_X4_isLetter (l : Launch) (Y : qaY) (m : qaM) (v0 : Int32) (q : Int32) (hf : f_X4_isLetter m v0 = some q) : qaMi l Y yX4_isLetter cX4_isLetter 1 (some .boolean) 1 [.int v0] m m q := by
  refine qa_enti (by decide +kernel) (Nat.le_of_ble_eq_true rfl) fun X hC hQ => ?_
  have hK : qa_eq q q := rfl
  unfold f_X4_isLetter at hf
  refine qi_iload_n hC 0 rfl rfl dX4_isLetter_0 ?_
  refine qi_bipush hC dX4_isLetter_1 kn_bipush_97 ?_
  refine qi_icmp_lt (tgt := 16) hC (by decide) dX4_isLetter_3 (fun h => ?_) (fun h => ?_)
  · replace hf := qa_if_t h hf
    refine qi_iconst hC dX4_isLetter_16 kn_iconst_0 ?_
    obtain rfl := Option.some.inj hf
    exact qi_iretz hC hQ (congrArg (fun w => (w, m)) hK) rfl dX4_isLetter_17
  · replace hf := qa_if_f h hf
    refine qi_iload_n hC 0 rfl rfl dX4_isLetter_6 ?_
    refine qi_bipush hC dX4_isLetter_7 kn_bipush_122 ?_
    refine qi_icmp_gt (tgt := 16) hC (by decide) dX4_isLetter_9 (fun h => ?_) (fun h => ?_)
    · replace hf := qa_if_t h hf
      refine qi_iconst hC dX4_isLetter_16 kn_iconst_0 ?_
      obtain rfl := Option.some.inj hf
      exact qi_iretz hC hQ (congrArg (fun w => (w, m)) hK) rfl dX4_isLetter_17
    · replace hf := qa_if_f h hf
      refine qi_iconst hC dX4_isLetter_12 kn_iconst_1 ?_
      refine qi_goto (tgt := 17) hC (by decide) dX4_isLetter_13 ?_
      obtain rfl := Option.some.inj hf
      exact qi_iretz hC hQ (congrArg (fun w => (w, m)) hK) rfl dX4_isLetter_17
set_option maxRecDepth 100000 in
set_option maxHeartbeats 4000000 in
theorem t_X4_isSign_48 {X : qaX} {l : Launch} {Y : qaY} {fin : Int32} {m : qaM} (hC : QC X l Y cX4_isSign RX4 1 1) (hQ : QRi X Y (some .boolean) m fin) {z : (Int32)} (hf : b_X4_isSign_48 m = some z) (hK : (qa_eq fin) z) : QG X Y 1 m 48 [] [] := by
  unfold b_X4_isSign_48 at hf
  refine qi_iconst hC dX4_isSign_48 kn_iconst_1 ?_
  refine qi_goto (tgt := 53) hC (by decide) dX4_isSign_49 ?_
  obtain rfl := Option.some.inj hf
  exact qi_iretz hC hQ (congrArg (fun w => (w, m)) hK) rfl dX4_isSign_53
set_option maxRecDepth 100000 in
set_option maxHeartbeats 4000000 in
theorem c_X4_isSign (l : Launch) (Y : qaY) (m : qaM) (v0 : Int32) (q : Int32) (hf : f_X4_isSign m v0 = some q) : qaMi l Y yX4_isSign cX4_isSign 1 (some .boolean) 1 [.int v0] m m q := by
  refine qa_enti (by decide +kernel) (Nat.le_of_ble_eq_true rfl) fun X hC hQ => ?_
  have hK : qa_eq q q := rfl
  unfold f_X4_isSign at hf
  refine qi_iload_n hC 0 rfl rfl dX4_isSign_0 ?_
  refine qi_bipush hC dX4_isSign_1 kn_bipush_40 ?_
  refine qi_icmp_eq (tgt := 48) hC (by decide) dX4_isSign_3 (fun h => ?_) (fun h => ?_)
  · replace hf := qa_if_t h hf
    refine qi_sub hC [] rfl ?_
    exact t_X4_isSign_48 hC hQ hf hK
  · replace hf := qa_if_f h hf
    refine qi_iload_n hC 0 rfl rfl dX4_isSign_6 ?_
    refine qi_bipush hC dX4_isSign_7 kn_bipush_41 ?_
    refine qi_icmp_eq (tgt := 48) hC (by decide) dX4_isSign_9 (fun h => ?_) (fun h => ?_)
    · replace hf := qa_if_t h hf
      refine qi_sub hC [] rfl ?_
      exact t_X4_isSign_48 hC hQ hf hK
    · replace hf := qa_if_f h hf
      refine qi_iload_n hC 0 rfl rfl dX4_isSign_12 ?_
      refine qi_bipush hC dX4_isSign_13 kn_bipush_59 ?_
      refine qi_icmp_eq (tgt := 48) hC (by decide) dX4_isSign_15 (fun h => ?_) (fun h => ?_)
      · replace hf := qa_if_t h hf
        refine qi_sub hC [] rfl ?_
        exact t_X4_isSign_48 hC hQ hf hK
      · replace hf := qa_if_f h hf
        refine qi_iload_n hC 0 rfl rfl dX4_isSign_18 ?_
        refine qi_bipush hC dX4_isSign_19 kn_bipush_43 ?_
        refine qi_icmp_eq (tgt := 48) hC (by decide) dX4_isSign_21 (fun h => ?_) (fun h => ?_)
        · replace hf := qa_if_t h hf
          refine qi_sub hC [] rfl ?_
          exact t_X4_isSign_48 hC hQ hf hK
        · replace hf := qa_if_f h hf
          refine qi_iload_n hC 0 rfl rfl dX4_isSign_24 ?_
          refine qi_bipush hC dX4_isSign_25 kn_bipush_45 ?_
          refine qi_icmp_eq (tgt := 48) hC (by decide) dX4_isSign_27 (fun h => ?_) (fun h => ?_)
          · replace hf := qa_if_t h hf
            refine qi_sub hC [] rfl ?_
            exact t_X4_isSign_48 hC hQ hf hK
          · replace hf := qa_if_f h hf
            refine qi_iload_n hC 0 rfl rfl dX4_isSign_30 ?_
            refine qi_bipush hC dX4_isSign_31 kn_bipush_42 ?_
            refine qi_icmp_eq (tgt := 48) hC (by decide) dX4_isSign_33 (fun h => ?_) (fun h => ?_)
            · replace hf := qa_if_t h hf
              refine qi_sub hC [] rfl ?_
              exact t_X4_isSign_48 hC hQ hf hK
            · replace hf := qa_if_f h hf
              refine qi_iload_n hC 0 rfl rfl dX4_isSign_36 ?_
              refine qi_bipush hC dX4_isSign_37 kn_bipush_60 ?_
              refine qi_icmp_eq (tgt := 48) hC (by decide) dX4_isSign_39 (fun h => ?_) (fun h => ?_)
              · replace hf := qa_if_t h hf
                refine qi_sub hC [] rfl ?_
                exact t_X4_isSign_48 hC hQ hf hK
              · replace hf := qa_if_f h hf
                refine qi_iload_n hC 0 rfl rfl dX4_isSign_42 ?_
                refine qi_bipush hC dX4_isSign_43 kn_bipush_61 ?_
                refine qi_icmp_ne (tgt := 52) hC (by decide) dX4_isSign_45 (fun h => ?_) (fun h => ?_)
                · replace hf := qa_if_f h hf
                  refine qi_iconst hC dX4_isSign_52 kn_iconst_0 ?_
                  obtain rfl := Option.some.inj hf
                  exact qi_iretz hC hQ (congrArg (fun w => (w, m)) hK) rfl dX4_isSign_53
                · replace hf := qa_if_t h hf
                  refine qi_sub hC [] rfl ?_
                  exact t_X4_isSign_48 hC hQ hf hK
set_option maxRecDepth 100000 in
set_option maxHeartbeats 4000000 in
theorem t_X4_readsNumber_64 {X : qaX} {l : Launch} {Y : qaY} {fin : Int32 × qaM} (hC : QC X l Y cX4_readsNumber RX4 2 2) (hQ : QRi X Y (some .int) fin.2 fin.1) {m : qaM} {v1 : Int32} {z : ((qaM × Int32) ⊕ (Int32 × qaM))} (hf : b_X4_readsNumber_64 m v1 = some z) (hK : (qa_K (fun s => QG X Y 2 s.1 64 [(0, .ref (Y.2.2.1 6)), (1, .int s.2)] []) (qa_eq fin)) z) : QG X Y 2 m 64 [(0, .ref (Y.2.2.1 6)), (1, .int v1)] [] := by
  unfold b_X4_readsNumber_64 at hf
  refine qi_iload_n hC 1 rfl rfl dX4_readsNumber_64 ?_
  refine qi_aload_n hC 0 rfl rfl dX4_readsNumber_65 ?_
  refine qi_geti hC kf_X4_19 sh_6 rfl dX4_readsNumber_66 ?_
  refine qi_icmp_ge (tgt := 98) hC (by decide) dX4_readsNumber_69 (fun h => ?_) (fun h => ?_)
  · replace hf := qa_if_t h hf
    refine qi_iconst hC dX4_readsNumber_98 kn_iconst_2 ?_
    obtain ⟨z, rfl, hg⟩ := qa_inr_e hf; have hf := hg
    obtain rfl := Option.some.inj hf
    exact qi_ireti hC hQ hK dX4_readsNumber_99
  · replace hf := qa_if_f h hf
    refine qi_aload_n hC 0 rfl rfl dX4_readsNumber_72 ?_
    refine qi_aload_n hC 0 rfl rfl dX4_readsNumber_73 ?_
    refine qi_geti hC kf_X4_59 sh_6 rfl dX4_readsNumber_74 ?_
    refine qi_bipush hC dX4_readsNumber_77 kn_bipush_10 ?_
    refine qi_imul hC dX4_readsNumber_79 ?_
    refine qi_aload_n hC 0 rfl rfl dX4_readsNumber_80 ?_
    refine qi_iload_n hC 1 rfl rfl dX4_readsNumber_81 ?_
    obtain ⟨q3, hq3, hf⟩ := Option.bind_eq_some_iff.mp hf
    refine qi_callVi hC (as := [.int v1]) (c_X4_byteAt _ _ _ _ _ hq3) kl_X4_62 sh_6 kc_X4_byteAt rfl rfl (by decide) (by decide) (Nat.le_of_ble_eq_true rfl) dX4_readsNumber_82 ?_
    refine qi_iadd hC dX4_readsNumber_85 ?_
    refine qi_bipush hC dX4_readsNumber_86 kn_bipush_48 ?_
    refine qi_isub hC dX4_readsNumber_88 ?_
    obtain ⟨m4, em4, hf⟩ := qa_lt_e hf
    refine qi_puti hC em4 kp_X4_59 sh_6 rfl rfl rfl dX4_readsNumber_89 ?_
    obtain ⟨x5, ex5, hf⟩ := qa_lt_e hf
    refine qi_iinc hC (n := 1) (v := x5) 1 rfl ((congrArg (fun q => v1 + q) kn_iconst_1).trans ex5.symm) (by decide) rfl dX4_readsNumber_92 ?_
    refine qi_goto (tgt := 64) hC (by decide) dX4_readsNumber_95 ?_
    obtain rfl := Option.some.inj hf
    refine qi_sub hC [1, 0] rfl ?_
    exact hK
set_option maxRecDepth 100000 in
set_option maxHeartbeats 4000000 in
theorem tn_X4_readsNumber_64 {X : qaX} {l : Launch} {Y : qaY} {fin : Int32 × qaM} (hC : QC X l Y cX4_readsNumber RX4 2 2) (hQ : QRi X Y (some .int) fin.2 fin.1) {z : (Int32 × qaM)} (hK : (qa_eq fin) z) : ∀ (n : Nat) (s : qaM × Int32), qa_lp (fun s => b_X4_readsNumber_64 s.1 s.2) n s = some z → QG X Y 2 s.1 64 [(0, .ref (Y.2.2.1 6)), (1, .int s.2)] [] := by
  intro n
  induction n with
  | zero => intro s hf; cases hf
  | succ n ih =>
    intro s hf
    obtain ⟨y, hy, hf⟩ := qa_lp_e hf
    refine t_X4_readsNumber_64 hC hQ hy ?_
    rcases hf with ⟨s', rfl, hf⟩ | rfl
    · exact ih s' hf
    · exact hK
set_option maxRecDepth 100000 in
set_option maxHeartbeats 4000000 in
theorem tl_X4_readsNumber_64 {X : qaX} {l : Launch} {Y : qaY} {fin : Int32 × qaM} (hC : QC X l Y cX4_readsNumber RX4 2 2) (hQ : QRi X Y (some .int) fin.2 fin.1) {m : qaM} {v1 : Int32} {z : (Int32 × qaM)} (hf : lp_X4_readsNumber_64 m v1 = some z) (hK : (qa_eq fin) z) : QG X Y 2 m 64 [(0, .ref (Y.2.2.1 6)), (1, .int v1)] [] :=
  tn_X4_readsNumber_64 hC hQ hK qa_F (m, v1) hf
set_option maxRecDepth 100000 in
set_option maxHeartbeats 4000000 in
theorem t_X4_readsNumber_39 {X : qaX} {l : Launch} {Y : qaY} {fin : Int32 × qaM} (hC : QC X l Y cX4_readsNumber RX4 2 2) (hQ : QRi X Y (some .int) fin.2 fin.1) {m : qaM} {z : (Int32 × qaM)} (hf : b_X4_readsNumber_39 m = some z) (hK : (qa_eq fin) z) : QG X Y 2 m 39 [(0, .ref (Y.2.2.1 6))] [] := by
  unfold b_X4_readsNumber_39 at hf
  refine qi_aload_n hC 0 rfl rfl dX4_readsNumber_39 ?_
  refine qi_geti hC kf_X4_19 sh_6 rfl dX4_readsNumber_40 ?_
  refine qi_aload_n hC 0 rfl rfl dX4_readsNumber_43 ?_
  refine qi_geti hC kf_X4_28 sh_6 rfl dX4_readsNumber_44 ?_
  refine qi_isub hC dX4_readsNumber_47 ?_
  refine qi_iconst hC dX4_readsNumber_48 kn_iconst_4 ?_
  refine qi_icmp_le (tgt := 54) hC (by decide) dX4_readsNumber_49 (fun h => ?_) (fun h => ?_)
  · replace hf := qa_if_t h hf
    refine qi_aload_n hC 0 rfl rfl dX4_readsNumber_54 ?_
    refine qi_iconst hC dX4_readsNumber_55 kn_iconst_0 ?_
    obtain ⟨m1, em1, hf⟩ := qa_lt_e hf
    refine qi_puti hC em1 kp_X4_59 sh_6 rfl rfl rfl dX4_readsNumber_56 ?_
    refine qi_aload_n hC 0 rfl rfl dX4_readsNumber_59 ?_
    refine qi_geti hC kf_X4_28 sh_6 rfl dX4_readsNumber_60 ?_
    obtain ⟨x2, ex2, hf⟩ := qa_lt_e hf
    refine qi_nmi hC ex2 ?_
    refine qi_istore_n hC rfl (by decide) rfl dX4_readsNumber_63 ?_
    refine qi_sub hC [1, 0] rfl ?_
    exact tl_X4_readsNumber_64 hC hQ hf hK
  · replace hf := qa_if_f h hf
    refine qi_iconst hC dX4_readsNumber_52 kn_iconst_1 ?_
    obtain rfl := Option.some.inj hf
    exact qi_ireti hC hQ hK dX4_readsNumber_53
set_option maxRecDepth 100000 in
set_option maxHeartbeats 4000000 in
theorem t_X4_readsNumber_2 {X : qaX} {l : Launch} {Y : qaY} {fin : Int32 × qaM} (hC : QC X l Y cX4_readsNumber RX4 2 2) (hQ : QRi X Y (some .int) fin.2 fin.1) {m : qaM} {v1 : Int32} {z : ((qaM × Int32) ⊕ (Int32 × qaM))} (hf : b_X4_readsNumber_2 m v1 = some z) (hK : (qa_K (fun s => QG X Y 2 s.1 2 [(0, .ref (Y.2.2.1 6)), (1, .int s.2)] []) (qa_eq fin)) z) : QG X Y 2 m 2 [(0, .ref (Y.2.2.1 6)), (1, .int v1)] [] := by
  unfold b_X4_readsNumber_2 at hf
  refine qi_iload_n hC 1 rfl rfl dX4_readsNumber_2 ?_
  refine qi_sipush hC dX4_readsNumber_3 kn_sipush_160 ?_
  refine qi_icmp_ge (tgt := 39) hC (by decide) dX4_readsNumber_6 (fun h => ?_) (fun h => ?_)
  · replace hf := qa_if_t h hf
    obtain ⟨z, rfl, hg⟩ := qa_inr_e hf; have hf := hg
    refine qi_sub hC [0] rfl ?_
    exact t_X4_readsNumber_39 hC hQ hf hK
  · replace hf := qa_if_f h hf
    refine qi_aload_n hC 0 rfl rfl dX4_readsNumber_9 ?_
    refine qi_aload_n hC 0 rfl rfl dX4_readsNumber_10 ?_
    refine qi_geti hC kf_X4_19 sh_6 rfl dX4_readsNumber_11 ?_
    obtain ⟨q6, hq6, hf⟩ := Option.bind_eq_some_iff.mp hf
    refine qi_callVi hC (as := [.int (m 6 3)]) (c_X4_byteAt _ _ _ _ _ hq6) kl_X4_62 sh_6 kc_X4_byteAt rfl rfl (by decide) (by decide) (Nat.le_of_ble_eq_true rfl) dX4_readsNumber_14 ?_
    obtain ⟨q7, hq7, hf⟩ := Option.bind_eq_some_iff.mp hf
    refine qi_callSi hC (as := [.int q6]) (c_X4_isDigit _ _ _ _ _ hq7) kl_X4_74 kc_X4_isDigit rfl rfl (by decide) (by decide) (Nat.le_of_ble_eq_true rfl) dX4_readsNumber_17 ?_
    refine qi_if_eq (tgt := 39) hC (by decide) dX4_readsNumber_20 (fun h => ?_) (fun h => ?_)
    · replace hf := qa_if_t h hf
      obtain ⟨z, rfl, hg⟩ := qa_inr_e hf; have hf := hg
      refine qi_sub hC [0] rfl ?_
      exact t_X4_readsNumber_39 hC hQ hf hK
    · replace hf := qa_if_f h hf
      refine qi_aload_n hC 0 rfl rfl dX4_readsNumber_23 ?_
      refine qi_dup hC rfl dX4_readsNumber_24 ?_
      refine qi_geti hC kf_X4_19 sh_6 rfl dX4_readsNumber_25 ?_
      refine qi_iconst hC dX4_readsNumber_28 kn_iconst_1 ?_
      refine qi_iadd hC dX4_readsNumber_29 ?_
      obtain ⟨m8, em8, hf⟩ := qa_lt_e hf
      refine qi_puti hC em8 kp_X4_19 sh_6 rfl rfl rfl dX4_readsNumber_30 ?_
      obtain ⟨x9, ex9, hf⟩ := qa_lt_e hf
      refine qi_iinc hC (n := 1) (v := x9) 1 rfl ((congrArg (fun q => v1 + q) kn_iconst_1).trans ex9.symm) (by decide) rfl dX4_readsNumber_33 ?_
      refine qi_goto (tgt := 2) hC (by decide) dX4_readsNumber_36 ?_
      obtain rfl := Option.some.inj hf
      refine qi_sub hC [1, 0] rfl ?_
      exact hK
set_option maxRecDepth 100000 in
set_option maxHeartbeats 4000000 in
theorem tn_X4_readsNumber_2 {X : qaX} {l : Launch} {Y : qaY} {fin : Int32 × qaM} (hC : QC X l Y cX4_readsNumber RX4 2 2) (hQ : QRi X Y (some .int) fin.2 fin.1) {z : (Int32 × qaM)} (hK : (qa_eq fin) z) : ∀ (n : Nat) (s : qaM × Int32), qa_lp (fun s => b_X4_readsNumber_2 s.1 s.2) n s = some z → QG X Y 2 s.1 2 [(0, .ref (Y.2.2.1 6)), (1, .int s.2)] [] := by
  intro n
  induction n with
  | zero => intro s hf; cases hf
  | succ n ih =>
    intro s hf
    obtain ⟨y, hy, hf⟩ := qa_lp_e hf
    refine t_X4_readsNumber_2 hC hQ hy ?_
    rcases hf with ⟨s', rfl, hf⟩ | rfl
    · exact ih s' hf
    · exact hK
set_option maxRecDepth 100000 in
set_option maxHeartbeats 4000000 in
theorem tl_X4_readsNumber_2 {X : qaX} {l : Launch} {Y : qaY} {fin : Int32 × qaM} (hC : QC X l Y cX4_readsNumber RX4 2 2) (hQ : QRi X Y (some .int) fin.2 fin.1) {m : qaM} {v1 : Int32} {z : (Int32 × qaM)} (hf : lp_X4_readsNumber_2 m v1 = some z) (hK : (qa_eq fin) z) : QG X Y 2 m 2 [(0, .ref (Y.2.2.1 6)), (1, .int v1)] [] :=
  tn_X4_readsNumber_2 hC hQ hK qa_F (m, v1) hf
set_option maxRecDepth 100000 in
set_option maxHeartbeats 4000000 in
theorem c_X4_readsNumber (l : Launch) (Y : qaY) (m : qaM) (q : Int32 × qaM) (hf : f_X4_readsNumber m = some q) : qaMi l Y yX4_readsNumber cX4_readsNumber 2 (some .int) 2 [.ref (Y.2.2.1 6)] m q.2 q.1 := by
  refine qa_enti (by decide +kernel) (Nat.le_of_ble_eq_true rfl) fun X hC hQ => ?_
  have hK : qa_eq q q := rfl
  unfold f_X4_readsNumber at hf
  refine qi_iconst hC dX4_readsNumber_0 kn_iconst_0 ?_
  refine qi_istore_n hC rfl (by decide) rfl dX4_readsNumber_1 ?_
  refine qi_sub hC [1, 0] rfl ?_
  exact tl_X4_readsNumber_2 hC hQ hf hK
set_option maxRecDepth 100000 in
set_option maxHeartbeats 4000000 in
theorem t_X4_stands_20 {X : qaX} {l : Launch} {Y : qaY} {fin : Int32} {m : qaM} {k1 : Nat} (hC : QC X l Y cX4_stands RX4 3 5) (hQ : QRi X Y (some .boolean) m fin) {v2 : Int32} {z : ((Int32) ⊕ (Int32))} (hf : b_X4_stands_20 k1 m v2 = some z) (hK : (qa_K (fun s => QG X Y 3 m 20 [(0, .ref (Y.2.2.1 6)), (1, .ref (Y.2.2.2 (1 + k1))), (2, .int s)] []) (qa_eq fin)) z) : QG X Y 3 m 20 [(0, .ref (Y.2.2.1 6)), (1, .ref (Y.2.2.2 (1 + k1))), (2, .int v2)] [] := by
  unfold b_X4_stands_20 at hf
  refine qi_iload_n hC 2 rfl rfl dX4_stands_20 ?_
  refine qi_aload_n hC 1 rfl rfl dX4_stands_21 ?_
  obtain ⟨h2, hf⟩ := qa_ck_e hf
  refine qi_callSi_len hC (of_decide_eq_true h2) km_X4_91 (by decide) (Nat.le_of_ble_eq_true rfl) dX4_stands_22 ?_
  refine qi_icmp_ge (tgt := 54) hC (by decide) dX4_stands_25 (fun h => ?_) (fun h => ?_)
  · replace hf := qa_if_t h hf
    refine qi_iconst hC dX4_stands_54 kn_iconst_1 ?_
    obtain ⟨z, rfl, hg⟩ := qa_inr_e hf; have hf := hg
    obtain rfl := Option.some.inj hf
    exact qi_iretz hC hQ (congrArg (fun w => (w, m)) hK) rfl dX4_stands_55
  · replace hf := qa_if_f h hf
    refine qi_aload_n hC 1 rfl rfl dX4_stands_28 ?_
    refine qi_iload_n hC 2 rfl rfl dX4_stands_29 ?_
    obtain ⟨h3, hf⟩ := qa_ck_e hf
    obtain ⟨h4, hf⟩ := qa_ck_e hf
    refine qi_callSi_chr hC (of_decide_eq_true h3) (qa_in_v h4) km_X4_96 (by decide) (Nat.le_of_ble_eq_true rfl) dX4_stands_30 ?_
    refine qi_aload_n hC 0 rfl rfl dX4_stands_33 ?_
    refine qi_aload_n hC 0 rfl rfl dX4_stands_34 ?_
    refine qi_geti hC kf_X4_28 sh_6 rfl dX4_stands_35 ?_
    refine qi_iload_n hC 2 rfl rfl dX4_stands_38 ?_
    refine qi_iadd hC dX4_stands_39 ?_
    obtain ⟨q5, hq5, hf⟩ := Option.bind_eq_some_iff.mp hf
    refine qi_callVi hC (as := [.int ((m 6 2) + v2)]) (c_X4_byteAt _ _ _ _ _ hq5) kl_X4_62 sh_6 kc_X4_byteAt rfl rfl (by decide) (by decide) (Nat.le_of_ble_eq_true rfl) dX4_stands_40 ?_
    refine qi_icmp_eq (tgt := 48) hC (by decide) dX4_stands_43 (fun h => ?_) (fun h => ?_)
    · replace hf := qa_if_t h hf
      obtain ⟨x6, ex6, hf⟩ := qa_lt_e hf
      refine qi_iinc hC (n := 1) (v := x6) 2 rfl ((congrArg (fun q => v2 + q) kn_iconst_1).trans ex6.symm) (by decide) rfl dX4_stands_48 ?_
      refine qi_goto (tgt := 20) hC (by decide) dX4_stands_51 ?_
      obtain rfl := Option.some.inj hf
      refine qi_sub hC [1, 2, 0] rfl ?_
      exact hK
    · replace hf := qa_if_f h hf
      refine qi_iconst hC dX4_stands_46 kn_iconst_0 ?_
      obtain ⟨z, rfl, hg⟩ := qa_inr_e hf; have hf := hg
      obtain rfl := Option.some.inj hf
      exact qi_iretz hC hQ (congrArg (fun w => (w, m)) hK) rfl dX4_stands_47
set_option maxRecDepth 100000 in
set_option maxHeartbeats 4000000 in
theorem tn_X4_stands_20 {X : qaX} {l : Launch} {Y : qaY} {fin : Int32} {m : qaM} {k1 : Nat} (hC : QC X l Y cX4_stands RX4 3 5) (hQ : QRi X Y (some .boolean) m fin) {z : (Int32)} (hK : (qa_eq fin) z) : ∀ (n : Nat) (s : Int32), qa_lp (fun s => b_X4_stands_20 k1 m s) n s = some z → QG X Y 3 m 20 [(0, .ref (Y.2.2.1 6)), (1, .ref (Y.2.2.2 (1 + k1))), (2, .int s)] [] := by
  intro n
  induction n with
  | zero => intro s hf; cases hf
  | succ n ih =>
    intro s hf
    obtain ⟨y, hy, hf⟩ := qa_lp_e hf
    refine t_X4_stands_20 hC hQ hy ?_
    rcases hf with ⟨s', rfl, hf⟩ | rfl
    · exact ih s' hf
    · exact hK
set_option maxRecDepth 100000 in
set_option maxHeartbeats 4000000 in
theorem tl_X4_stands_20 {X : qaX} {l : Launch} {Y : qaY} {fin : Int32} {m : qaM} {k1 : Nat} (hC : QC X l Y cX4_stands RX4 3 5) (hQ : QRi X Y (some .boolean) m fin) {v2 : Int32} {z : (Int32)} (hf : lp_X4_stands_20 k1 m v2 = some z) (hK : (qa_eq fin) z) : QG X Y 3 m 20 [(0, .ref (Y.2.2.1 6)), (1, .ref (Y.2.2.2 (1 + k1))), (2, .int v2)] [] :=
  tn_X4_stands_20 hC hQ hK qa_F v2 hf
set_option maxRecDepth 100000 in
set_option maxHeartbeats 4000000 in
theorem c_X4_stands (l : Launch) (Y : qaY) {k1 : Nat} (m : qaM) (q : Int32) (hf : f_X4_stands k1 m = some q) : qaMi l Y yX4_stands cX4_stands 3 (some .boolean) 5 [.ref (Y.2.2.1 6), .ref (Y.2.2.2 (1 + k1))] m m q := by
  refine qa_enti (by decide +kernel) (Nat.le_of_ble_eq_true rfl) fun X hC hQ => ?_
  have hK : qa_eq q q := rfl
  unfold f_X4_stands at hf
  refine qi_aload_n hC 1 rfl rfl dX4_stands_0 ?_
  obtain ⟨h1, hf⟩ := qa_ck_e hf
  refine qi_callSi_len hC (of_decide_eq_true h1) km_X4_91 (by decide) (Nat.le_of_ble_eq_true rfl) dX4_stands_1 ?_
  refine qi_aload_n hC 0 rfl rfl dX4_stands_4 ?_
  refine qi_geti hC kf_X4_19 sh_6 rfl dX4_stands_5 ?_
  refine qi_aload_n hC 0 rfl rfl dX4_stands_8 ?_
  refine qi_geti hC kf_X4_28 sh_6 rfl dX4_stands_9 ?_
  refine qi_isub hC dX4_stands_12 ?_
  refine qi_icmp_eq (tgt := 18) hC (by decide) dX4_stands_13 (fun h => ?_) (fun h => ?_)
  · replace hf := qa_if_t h hf
    refine qi_iconst hC dX4_stands_18 kn_iconst_0 ?_
    refine qi_istore_n hC rfl (by decide) rfl dX4_stands_19 ?_
    refine qi_sub hC [1, 2, 0] rfl ?_
    exact tl_X4_stands_20 hC hQ hf hK
  · replace hf := qa_if_f h hf
    refine qi_iconst hC dX4_stands_16 kn_iconst_0 ?_
    obtain rfl := Option.some.inj hf
    exact qi_iretz hC hQ (congrArg (fun w => (w, m)) hK) rfl dX4_stands_17
set_option maxRecDepth 100000 in
set_option maxHeartbeats 4000000 in
theorem c_X4_wordOf (l : Launch) (Y : qaY) (m : qaM) (v0 : Int32) (q : Nat) (hf : f_X4_wordOf m v0 = some q) : qaMr l Y yX4_wordOf cX4_wordOf 1 (some (.object "java/lang/String")) 1 [.int v0] m m (Y.2.2.2 (1 + q)) := by
  refine qa_entr (by decide +kernel) (Nat.le_of_ble_eq_true rfl) fun X hC hQ => ?_
  have hK : qa_eq q q := rfl
  unfold f_X4_wordOf at hf
  refine qi_iload_n hC 0 rfl rfl dX4_wordOf_0 ?_
  by_cases h1 : v0 = (0 : Int32)
  · replace hf := qa_if_t h1 hf
    refine qi_tabIn (tgt := 60) (off := 59) hC dX4_wordOf_1 (by rw [h1] <;> decide) (by rw [h1] <;> decide) (by rw [h1] <;> decide) (by decide) ?_
    refine qi_ldcS (i := 0) hC (by decide) rfl dX4_wordOf_60 ?_
    obtain rfl := Option.some.inj hf
    exact qi_aret hC hQ (congrArg (fun w => (Y.2.2.2 (1 + w), m)) hK) dX4_wordOf_62
  replace hf := qa_if_f h1 hf
  by_cases h2 : v0 = (1 : Int32)
  · replace hf := qa_if_t h2 hf
    refine qi_tabIn (tgt := 63) (off := 62) hC dX4_wordOf_1 (by rw [h2] <;> decide) (by rw [h2] <;> decide) (by rw [h2] <;> decide) (by decide) ?_
    refine qi_ldcS (i := 1) hC (by decide) rfl dX4_wordOf_63 ?_
    obtain rfl := Option.some.inj hf
    exact qi_aret hC hQ (congrArg (fun w => (Y.2.2.2 (1 + w), m)) hK) dX4_wordOf_65
  replace hf := qa_if_f h2 hf
  by_cases h3 : v0 = (2 : Int32)
  · replace hf := qa_if_t h3 hf
    refine qi_tabIn (tgt := 66) (off := 65) hC dX4_wordOf_1 (by rw [h3] <;> decide) (by rw [h3] <;> decide) (by rw [h3] <;> decide) (by decide) ?_
    refine qi_ldcS (i := 2) hC (by decide) rfl dX4_wordOf_66 ?_
    obtain rfl := Option.some.inj hf
    exact qi_aret hC hQ (congrArg (fun w => (Y.2.2.2 (1 + w), m)) hK) dX4_wordOf_68
  replace hf := qa_if_f h3 hf
  by_cases h4 : v0 = (3 : Int32)
  · replace hf := qa_if_t h4 hf
    refine qi_tabIn (tgt := 69) (off := 68) hC dX4_wordOf_1 (by rw [h4] <;> decide) (by rw [h4] <;> decide) (by rw [h4] <;> decide) (by decide) ?_
    refine qi_ldcS (i := 3) hC (by decide) rfl dX4_wordOf_69 ?_
    obtain rfl := Option.some.inj hf
    exact qi_aret hC hQ (congrArg (fun w => (Y.2.2.2 (1 + w), m)) hK) dX4_wordOf_71
  replace hf := qa_if_f h4 hf
  by_cases h5 : v0 = (4 : Int32)
  · replace hf := qa_if_t h5 hf
    refine qi_tabIn (tgt := 72) (off := 71) hC dX4_wordOf_1 (by rw [h5] <;> decide) (by rw [h5] <;> decide) (by rw [h5] <;> decide) (by decide) ?_
    refine qi_ldcS (i := 4) hC (by decide) rfl dX4_wordOf_72 ?_
    obtain rfl := Option.some.inj hf
    exact qi_aret hC hQ (congrArg (fun w => (Y.2.2.2 (1 + w), m)) hK) dX4_wordOf_74
  replace hf := qa_if_f h5 hf
  by_cases h6 : v0 = (5 : Int32)
  · replace hf := qa_if_t h6 hf
    refine qi_tabIn (tgt := 75) (off := 74) hC dX4_wordOf_1 (by rw [h6] <;> decide) (by rw [h6] <;> decide) (by rw [h6] <;> decide) (by decide) ?_
    refine qi_ldcS (i := 5) hC (by decide) rfl dX4_wordOf_75 ?_
    obtain rfl := Option.some.inj hf
    exact qi_aret hC hQ (congrArg (fun w => (Y.2.2.2 (1 + w), m)) hK) dX4_wordOf_77
  replace hf := qa_if_f h6 hf
  by_cases h7 : v0 = (6 : Int32)
  · replace hf := qa_if_t h7 hf
    refine qi_tabIn (tgt := 78) (off := 77) hC dX4_wordOf_1 (by rw [h7] <;> decide) (by rw [h7] <;> decide) (by rw [h7] <;> decide) (by decide) ?_
    refine qi_ldcS (i := 6) hC (by decide) rfl dX4_wordOf_78 ?_
    obtain rfl := Option.some.inj hf
    exact qi_aret hC hQ (congrArg (fun w => (Y.2.2.2 (1 + w), m)) hK) dX4_wordOf_80
  replace hf := qa_if_f h7 hf
  by_cases h8 : v0 = (7 : Int32)
  · replace hf := qa_if_t h8 hf
    refine qi_tabIn (tgt := 81) (off := 80) hC dX4_wordOf_1 (by rw [h8] <;> decide) (by rw [h8] <;> decide) (by rw [h8] <;> decide) (by decide) ?_
    refine qi_ldcS (i := 7) hC (by decide) rfl dX4_wordOf_81 ?_
    obtain rfl := Option.some.inj hf
    exact qi_aret hC hQ (congrArg (fun w => (Y.2.2.2 (1 + w), m)) hK) dX4_wordOf_83
  replace hf := qa_if_f h8 hf
  by_cases h9 : v0 = (8 : Int32)
  · replace hf := qa_if_t h9 hf
    refine qi_tabIn (tgt := 84) (off := 83) hC dX4_wordOf_1 (by rw [h9] <;> decide) (by rw [h9] <;> decide) (by rw [h9] <;> decide) (by decide) ?_
    refine qi_ldcS (i := 8) hC (by decide) rfl dX4_wordOf_84 ?_
    obtain rfl := Option.some.inj hf
    exact qi_aret hC hQ (congrArg (fun w => (Y.2.2.2 (1 + w), m)) hK) dX4_wordOf_86
  replace hf := qa_if_f h9 hf
  by_cases h10 : v0 = (9 : Int32)
  · replace hf := qa_if_t h10 hf
    refine qi_tabIn (tgt := 87) (off := 86) hC dX4_wordOf_1 (by rw [h10] <;> decide) (by rw [h10] <;> decide) (by rw [h10] <;> decide) (by decide) ?_
    refine qi_ldcS (i := 9) hC (by decide) rfl dX4_wordOf_87 ?_
    obtain rfl := Option.some.inj hf
    exact qi_aret hC hQ (congrArg (fun w => (Y.2.2.2 (1 + w), m)) hK) dX4_wordOf_89
  replace hf := qa_if_f h10 hf
  by_cases h11 : v0 = (10 : Int32)
  · replace hf := qa_if_t h11 hf
    refine qi_tabIn (tgt := 90) (off := 89) hC dX4_wordOf_1 (by rw [h11] <;> decide) (by rw [h11] <;> decide) (by rw [h11] <;> decide) (by decide) ?_
    refine qi_ldcS (i := 10) hC (by decide) rfl dX4_wordOf_90 ?_
    obtain rfl := Option.some.inj hf
    exact qi_aret hC hQ (congrArg (fun w => (Y.2.2.2 (1 + w), m)) hK) dX4_wordOf_92
  replace hf := qa_if_f h11 hf
  refine qi_tabOut (tgt := 93) hC dX4_wordOf_1 (by have nh1 := lv_neT (a := 0) h1 (by decide); have nh2 := lv_neT (a := 1) h2 (by decide); have nh3 := lv_neT (a := 2) h3 (by decide); have nh4 := lv_neT (a := 3) h4 (by decide); have nh5 := lv_neT (a := 4) h5 (by decide); have nh6 := lv_neT (a := 5) h6 (by decide); have nh7 := lv_neT (a := 6) h7 (by decide); have nh8 := lv_neT (a := 7) h8 (by decide); have nh9 := lv_neT (a := 8) h9 (by decide); have nh10 := lv_neT (a := 9) h10 (by decide); have nh11 := lv_neT (a := 10) h11 (by decide); omega) (by decide) ?_
  refine qi_ldcS (i := 11) hC (by decide) rfl dX4_wordOf_93 ?_
  obtain rfl := Option.some.inj hf
  exact qi_aret hC hQ (congrArg (fun w => (Y.2.2.2 (1 + w), m)) hK) dX4_wordOf_95
set_option maxRecDepth 100000 in
set_option maxHeartbeats 4000000 in
theorem t_X4_readsWord_58 {X : qaX} {l : Launch} {Y : qaY} {fin : Int32 × qaM} (hC : QC X l Y cX4_readsWord RX4 2 6) (hQ : QRi X Y (some .int) fin.2 fin.1) {m : qaM} {v1 : Int32} {z : (Int32 × qaM)} (hf : b_X4_readsWord_58 m v1 = some z) (hK : (qa_eq fin) z) : QG X Y 2 m 58 [(1, .int v1)] [] := by
  unfold b_X4_readsWord_58 at hf
  refine qi_sipush hC dX4_readsWord_58 kn_sipush_300 ?_
  refine qi_iload_n hC 0 rfl rfl dX4_readsWord_61 ?_
  refine qi_iadd hC dX4_readsWord_62 ?_
  obtain rfl := Option.some.inj hf
  exact qi_ireti hC hQ hK dX4_readsWord_63
set_option maxRecDepth 100000 in
set_option maxHeartbeats 4000000 in
theorem t_X4_readsWord_41 {X : qaX} {l : Launch} {Y : qaY} {fin : Int32 × qaM} (hC : QC X l Y cX4_readsWord RX4 2 6) (hQ : QRi X Y (some .int) fin.2 fin.1) {m : qaM} {v1 : Int32} {z : ((Int32) ⊕ (Int32 × qaM))} (hf : b_X4_readsWord_41 m v1 = some z) (hK : (qa_K (fun s => QG X Y 2 m 41 [(0, .ref (Y.2.2.1 6)), (1, .int s)] []) (qa_eq fin)) z) : QG X Y 2 m 41 [(0, .ref (Y.2.2.1 6)), (1, .int v1)] [] := by
  unfold b_X4_readsWord_41 at hf
  refine qi_iload_n hC 1 rfl rfl dX4_readsWord_41 ?_
  refine qi_bipush hC dX4_readsWord_42 kn_bipush_12 ?_
  refine qi_icmp_ge (tgt := 70) hC (by decide) dX4_readsWord_44 (fun h => ?_) (fun h => ?_)
  · replace hf := qa_if_t h hf
    refine qi_iconst hC dX4_readsWord_70 kn_iconst_1 ?_
    obtain ⟨z, rfl, hg⟩ := qa_inr_e hf; have hf := hg
    obtain rfl := Option.some.inj hf
    exact qi_ireti hC hQ hK dX4_readsWord_71
  · replace hf := qa_if_f h hf
    refine qi_aload_n hC 0 rfl rfl dX4_readsWord_47 ?_
    refine qi_iload_n hC 1 rfl rfl dX4_readsWord_48 ?_
    obtain ⟨q1, hq1, hf⟩ := Option.bind_eq_some_iff.mp hf
    refine qi_callSr hC (as := [.int v1]) (c_X4_wordOf _ _ _ _ _ hq1) kl_X4_83 kc_X4_wordOf rfl rfl (by decide) (by decide) (Nat.le_of_ble_eq_true rfl) dX4_readsWord_49 ?_
    obtain ⟨q2, hq2, hf⟩ := Option.bind_eq_some_iff.mp hf
    refine qi_callVi hC (as := [.ref (Y.2.2.2 (1 + q1))]) (c_X4_stands _ _ _ _ hq2) kl_X4_87 sh_6 kc_X4_stands rfl rfl (by decide) (by decide) (Nat.le_of_ble_eq_true rfl) dX4_readsWord_52 ?_
    refine qi_if_eq (tgt := 64) hC (by decide) dX4_readsWord_55 (fun h => ?_) (fun h => ?_)
    · replace hf := qa_if_t h hf
      obtain ⟨x3, ex3, hf⟩ := qa_lt_e hf
      refine qi_iinc hC (n := 1) (v := x3) 1 rfl ((congrArg (fun q => v1 + q) kn_iconst_1).trans ex3.symm) (by decide) rfl dX4_readsWord_64 ?_
      refine qi_goto (tgt := 41) hC (by decide) dX4_readsWord_67 ?_
      obtain rfl := Option.some.inj hf
      refine qi_sub hC [1, 0] rfl ?_
      exact hK
    · replace hf := qa_if_f h hf
      obtain ⟨z, rfl, hg⟩ := qa_inr_e hf; have hf := hg
      refine qi_sub hC [1] rfl ?_
      exact t_X4_readsWord_58 hC hQ hf hK
set_option maxRecDepth 100000 in
set_option maxHeartbeats 4000000 in
theorem tn_X4_readsWord_41 {X : qaX} {l : Launch} {Y : qaY} {fin : Int32 × qaM} (hC : QC X l Y cX4_readsWord RX4 2 6) (hQ : QRi X Y (some .int) fin.2 fin.1) {m : qaM} {z : (Int32 × qaM)} (hK : (qa_eq fin) z) : ∀ (n : Nat) (s : Int32), qa_lp (fun s => b_X4_readsWord_41 m s) n s = some z → QG X Y 2 m 41 [(0, .ref (Y.2.2.1 6)), (1, .int s)] [] := by
  intro n
  induction n with
  | zero => intro s hf; cases hf
  | succ n ih =>
    intro s hf
    obtain ⟨y, hy, hf⟩ := qa_lp_e hf
    refine t_X4_readsWord_41 hC hQ hy ?_
    rcases hf with ⟨s', rfl, hf⟩ | rfl
    · exact ih s' hf
    · exact hK
set_option maxRecDepth 100000 in
set_option maxHeartbeats 4000000 in
theorem tl_X4_readsWord_41 {X : qaX} {l : Launch} {Y : qaY} {fin : Int32 × qaM} (hC : QC X l Y cX4_readsWord RX4 2 6) (hQ : QRi X Y (some .int) fin.2 fin.1) {m : qaM} {v1 : Int32} {z : (Int32 × qaM)} (hf : lp_X4_readsWord_41 m v1 = some z) (hK : (qa_eq fin) z) : QG X Y 2 m 41 [(0, .ref (Y.2.2.1 6)), (1, .int v1)] [] :=
  tn_X4_readsWord_41 hC hQ hK qa_F v1 hf
set_option maxRecDepth 100000 in
set_option maxHeartbeats 4000000 in
theorem t_X4_readsWord_39 {X : qaX} {l : Launch} {Y : qaY} {fin : Int32 × qaM} (hC : QC X l Y cX4_readsWord RX4 2 6) (hQ : QRi X Y (some .int) fin.2 fin.1) {m : qaM} {z : (Int32 × qaM)} (hf : b_X4_readsWord_39 m = some z) (hK : (qa_eq fin) z) : QG X Y 2 m 39 [(0, .ref (Y.2.2.1 6))] [] := by
  unfold b_X4_readsWord_39 at hf
  refine qi_iconst hC dX4_readsWord_39 kn_iconst_0 ?_
  refine qi_istore_n hC rfl (by decide) rfl dX4_readsWord_40 ?_
  refine qi_sub hC [1, 0] rfl ?_
  exact tl_X4_readsWord_41 hC hQ hf hK
set_option maxRecDepth 100000 in
set_option maxHeartbeats 4000000 in
theorem t_X4_readsWord_2 {X : qaX} {l : Launch} {Y : qaY} {fin : Int32 × qaM} (hC : QC X l Y cX4_readsWord RX4 2 6) (hQ : QRi X Y (some .int) fin.2 fin.1) {m : qaM} {v1 : Int32} {z : ((qaM × Int32) ⊕ (Int32 × qaM))} (hf : b_X4_readsWord_2 m v1 = some z) (hK : (qa_K (fun s => QG X Y 2 s.1 2 [(0, .ref (Y.2.2.1 6)), (1, .int s.2)] []) (qa_eq fin)) z) : QG X Y 2 m 2 [(0, .ref (Y.2.2.1 6)), (1, .int v1)] [] := by
  unfold b_X4_readsWord_2 at hf
  refine qi_iload_n hC 1 rfl rfl dX4_readsWord_2 ?_
  refine qi_sipush hC dX4_readsWord_3 kn_sipush_160 ?_
  refine qi_icmp_ge (tgt := 39) hC (by decide) dX4_readsWord_6 (fun h => ?_) (fun h => ?_)
  · replace hf := qa_if_t h hf
    obtain ⟨z, rfl, hg⟩ := qa_inr_e hf; have hf := hg
    refine qi_sub hC [0] rfl ?_
    exact t_X4_readsWord_39 hC hQ hf hK
  · replace hf := qa_if_f h hf
    refine qi_aload_n hC 0 rfl rfl dX4_readsWord_9 ?_
    refine qi_aload_n hC 0 rfl rfl dX4_readsWord_10 ?_
    refine qi_geti hC kf_X4_19 sh_6 rfl dX4_readsWord_11 ?_
    obtain ⟨q4, hq4, hf⟩ := Option.bind_eq_some_iff.mp hf
    refine qi_callVi hC (as := [.int (m 6 3)]) (c_X4_byteAt _ _ _ _ _ hq4) kl_X4_62 sh_6 kc_X4_byteAt rfl rfl (by decide) (by decide) (Nat.le_of_ble_eq_true rfl) dX4_readsWord_14 ?_
    obtain ⟨q5, hq5, hf⟩ := Option.bind_eq_some_iff.mp hf
    refine qi_callSi hC (as := [.int q4]) (c_X4_isLetter _ _ _ _ _ hq5) kl_X4_66 kc_X4_isLetter rfl rfl (by decide) (by decide) (Nat.le_of_ble_eq_true rfl) dX4_readsWord_17 ?_
    refine qi_if_eq (tgt := 39) hC (by decide) dX4_readsWord_20 (fun h => ?_) (fun h => ?_)
    · replace hf := qa_if_t h hf
      obtain ⟨z, rfl, hg⟩ := qa_inr_e hf; have hf := hg
      refine qi_sub hC [0] rfl ?_
      exact t_X4_readsWord_39 hC hQ hf hK
    · replace hf := qa_if_f h hf
      refine qi_aload_n hC 0 rfl rfl dX4_readsWord_23 ?_
      refine qi_dup hC rfl dX4_readsWord_24 ?_
      refine qi_geti hC kf_X4_19 sh_6 rfl dX4_readsWord_25 ?_
      refine qi_iconst hC dX4_readsWord_28 kn_iconst_1 ?_
      refine qi_iadd hC dX4_readsWord_29 ?_
      obtain ⟨m6, em6, hf⟩ := qa_lt_e hf
      refine qi_puti hC em6 kp_X4_19 sh_6 rfl rfl rfl dX4_readsWord_30 ?_
      obtain ⟨x7, ex7, hf⟩ := qa_lt_e hf
      refine qi_iinc hC (n := 1) (v := x7) 1 rfl ((congrArg (fun q => v1 + q) kn_iconst_1).trans ex7.symm) (by decide) rfl dX4_readsWord_33 ?_
      refine qi_goto (tgt := 2) hC (by decide) dX4_readsWord_36 ?_
      obtain rfl := Option.some.inj hf
      refine qi_sub hC [1, 0] rfl ?_
      exact hK
set_option maxRecDepth 100000 in
set_option maxHeartbeats 4000000 in
theorem tn_X4_readsWord_2 {X : qaX} {l : Launch} {Y : qaY} {fin : Int32 × qaM} (hC : QC X l Y cX4_readsWord RX4 2 6) (hQ : QRi X Y (some .int) fin.2 fin.1) {z : (Int32 × qaM)} (hK : (qa_eq fin) z) : ∀ (n : Nat) (s : qaM × Int32), qa_lp (fun s => b_X4_readsWord_2 s.1 s.2) n s = some z → QG X Y 2 s.1 2 [(0, .ref (Y.2.2.1 6)), (1, .int s.2)] [] := by
  intro n
  induction n with
  | zero => intro s hf; cases hf
  | succ n ih =>
    intro s hf
    obtain ⟨y, hy, hf⟩ := qa_lp_e hf
    refine t_X4_readsWord_2 hC hQ hy ?_
    rcases hf with ⟨s', rfl, hf⟩ | rfl
    · exact ih s' hf
    · exact hK
set_option maxRecDepth 100000 in
set_option maxHeartbeats 4000000 in
theorem tl_X4_readsWord_2 {X : qaX} {l : Launch} {Y : qaY} {fin : Int32 × qaM} (hC : QC X l Y cX4_readsWord RX4 2 6) (hQ : QRi X Y (some .int) fin.2 fin.1) {m : qaM} {v1 : Int32} {z : (Int32 × qaM)} (hf : lp_X4_readsWord_2 m v1 = some z) (hK : (qa_eq fin) z) : QG X Y 2 m 2 [(0, .ref (Y.2.2.1 6)), (1, .int v1)] [] :=
  tn_X4_readsWord_2 hC hQ hK qa_F (m, v1) hf
set_option maxRecDepth 100000 in
set_option maxHeartbeats 4000000 in
theorem c_X4_readsWord (l : Launch) (Y : qaY) (m : qaM) (q : Int32 × qaM) (hf : f_X4_readsWord m = some q) : qaMi l Y yX4_readsWord cX4_readsWord 2 (some .int) 6 [.ref (Y.2.2.1 6)] m q.2 q.1 := by
  refine qa_enti (by decide +kernel) (Nat.le_of_ble_eq_true rfl) fun X hC hQ => ?_
  have hK : qa_eq q q := rfl
  unfold f_X4_readsWord at hf
  refine qi_iconst hC dX4_readsWord_0 kn_iconst_0 ?_
  refine qi_istore_n hC rfl (by decide) rfl dX4_readsWord_1 ?_
  refine qi_sub hC [1, 0] rfl ?_
  exact tl_X4_readsWord_2 hC hQ hf hK
set_option maxRecDepth 100000 in
set_option maxHeartbeats 4000000 in
theorem t_X4_goesOn_147 {X : qaX} {l : Launch} {Y : qaY} {fin : qaM} (hC : QC X l Y cX4_goesOn RX4 2 7) (hQ : QRv X Y fin) {m : qaM} {s1 : Int32} {z : (qaM)} (hf : b_X4_goesOn_147 m s1 = some z) (hK : (qa_eq fin) z) : QG X Y 2 m 147 [] [.int s1, .ref (Y.2.2.1 6)] := by
  unfold b_X4_goesOn_147 at hf
  obtain ⟨m7, em7, hf⟩ := qa_lt_e hf
  refine qi_puti hC em7 kp_X4_25 sh_6 rfl rfl rfl dX4_goesOn_147 ?_
  obtain rfl := Option.some.inj hf
  exact qi_vret hC hQ hK dX4_goesOn_150
set_option maxRecDepth 100000 in
set_option maxHeartbeats 4000000 in
theorem t_X4_goesOn_59 {X : qaX} {l : Launch} {Y : qaY} {fin : qaM} (hC : QC X l Y cX4_goesOn RX4 2 7) (hQ : QRv X Y fin) {m : qaM} {z : (qaM)} (hf : b_X4_goesOn_59 m = some z) (hK : (qa_eq fin) z) : QG X Y 2 m 59 [(0, .ref (Y.2.2.1 6))] [] := by
  unfold b_X4_goesOn_59 at hf
  refine qi_aload_n hC 0 rfl rfl dX4_goesOn_59 ?_
  refine qi_aload_n hC 0 rfl rfl dX4_goesOn_60 ?_
  refine qi_geti hC kf_X4_28 sh_6 rfl dX4_goesOn_61 ?_
  obtain ⟨q2, hq2, hf⟩ := Option.bind_eq_some_iff.mp hf
  refine qi_callVi hC (as := [.int (m 6 2)]) (c_X4_byteAt _ _ _ _ _ hq2) kl_X4_62 sh_6 kc_X4_byteAt rfl rfl (by decide) (by decide) (Nat.le_of_ble_eq_true rfl) dX4_goesOn_64 ?_
  refine qi_istore_n hC rfl (by decide) rfl dX4_goesOn_67 ?_
  refine qi_aload_n hC 1 rfl rfl dX4_goesOn_68 ?_
  refine qi_aload_n hC 1 rfl rfl dX4_goesOn_69 ?_
  refine qi_geti hC kf_X4_28 sh_6 rfl dX4_goesOn_70 ?_
  refine qi_iconst hC dX4_goesOn_73 kn_iconst_1 ?_
  refine qi_iadd hC dX4_goesOn_74 ?_
  obtain ⟨m3, em3, hf⟩ := qa_lt_e hf
  refine qi_puti hC em3 kp_X4_19 sh_6 rfl rfl rfl dX4_goesOn_75 ?_
  refine qi_iload_n hC 0 rfl rfl dX4_goesOn_78 ?_
  refine qi_if_ge (tgt := 98) hC (by decide) dX4_goesOn_79 (fun h => ?_) (fun h => ?_)
  · replace hf := qa_if_t h hf
    refine qi_iload_n hC 0 rfl rfl dX4_goesOn_98 ?_
    obtain ⟨q4, hq4, hf⟩ := Option.bind_eq_some_iff.mp hf
    refine qi_callSi hC (as := [.int q2]) (c_X4_isLetter _ _ _ _ _ hq4) kl_X4_66 kc_X4_isLetter rfl rfl (by decide) (by decide) (Nat.le_of_ble_eq_true rfl) dX4_goesOn_99 ?_
    refine qi_if_eq (tgt := 116) hC (by decide) dX4_goesOn_102 (fun h => ?_) (fun h => ?_)
    · replace hf := qa_if_t h hf
      refine qi_iload_n hC 0 rfl rfl dX4_goesOn_116 ?_
      obtain ⟨q5, hq5, hf⟩ := Option.bind_eq_some_iff.mp hf
      refine qi_callSi hC (as := [.int q2]) (c_X4_isDigit _ _ _ _ _ hq5) kl_X4_74 kc_X4_isDigit rfl rfl (by decide) (by decide) (Nat.le_of_ble_eq_true rfl) dX4_goesOn_117 ?_
      refine qi_if_eq (tgt := 134) hC (by decide) dX4_goesOn_120 (fun h => ?_) (fun h => ?_)
      · replace hf := qa_if_t h hf
        refine qi_aload_n hC 1 rfl rfl dX4_goesOn_134 ?_
        refine qi_iload_n hC 0 rfl rfl dX4_goesOn_135 ?_
        obtain ⟨q6, hq6, hf⟩ := Option.bind_eq_some_iff.mp hf
        refine qi_callSi hC (as := [.int q2]) (c_X4_isSign _ _ _ _ _ hq6) kl_X4_80 kc_X4_isSign rfl rfl (by decide) (by decide) (Nat.le_of_ble_eq_true rfl) dX4_goesOn_136 ?_
        refine qi_if_eq (tgt := 146) hC (by decide) dX4_goesOn_139 (fun h => ?_) (fun h => ?_)
        · replace hf := qa_if_t h hf
          refine qi_iconst hC dX4_goesOn_146 kn_iconst_1 ?_
          refine qi_sub hC [] rfl ?_
          exact t_X4_goesOn_147 hC hQ hf hK
        · replace hf := qa_if_f h hf
          refine qi_iload_n hC 0 rfl rfl dX4_goesOn_142 ?_
          refine qi_goto (tgt := 147) hC (by decide) dX4_goesOn_143 ?_
          refine qi_sub hC [] rfl ?_
          exact t_X4_goesOn_147 hC hQ hf hK
      · replace hf := qa_if_f h hf
        refine qi_aload_n hC 1 rfl rfl dX4_goesOn_123 ?_
        refine qi_aload_n hC 1 rfl rfl dX4_goesOn_124 ?_
        obtain ⟨q8, hq8, hf⟩ := Option.bind_eq_some_iff.mp hf
        refine qi_callVi hC (as := []) (c_X4_readsNumber _ _ _ _ hq8) kl_X4_77 sh_6 kc_X4_readsNumber rfl rfl (by decide) (by decide) (Nat.le_of_ble_eq_true rfl) dX4_goesOn_125 ?_
        obtain ⟨m9, em9, hf⟩ := qa_lt_e hf
        refine qi_puti hC em9 kp_X4_25 sh_6 rfl rfl rfl dX4_goesOn_128 ?_
        refine qi_goto (tgt := 150) hC (by decide) dX4_goesOn_131 ?_
        obtain rfl := Option.some.inj hf
        exact qi_vret hC hQ hK dX4_goesOn_150
    · replace hf := qa_if_f h hf
      refine qi_aload_n hC 1 rfl rfl dX4_goesOn_105 ?_
      refine qi_aload_n hC 1 rfl rfl dX4_goesOn_106 ?_
      obtain ⟨q10, hq10, hf⟩ := Option.bind_eq_some_iff.mp hf
      refine qi_callVi hC (as := []) (c_X4_readsWord _ _ _ _ hq10) kl_X4_70 sh_6 kc_X4_readsWord rfl rfl (by decide) (by decide) (Nat.le_of_ble_eq_true rfl) dX4_goesOn_107 ?_
      obtain ⟨m11, em11, hf⟩ := qa_lt_e hf
      refine qi_puti hC em11 kp_X4_25 sh_6 rfl rfl rfl dX4_goesOn_110 ?_
      refine qi_goto (tgt := 150) hC (by decide) dX4_goesOn_113 ?_
      obtain rfl := Option.some.inj hf
      exact qi_vret hC hQ hK dX4_goesOn_150
  · replace hf := qa_if_f h hf
    refine qi_aload_n hC 1 rfl rfl dX4_goesOn_82 ?_
    refine qi_iconst hC dX4_goesOn_83 kn_iconst_0 ?_
    obtain ⟨m12, em12, hf⟩ := qa_lt_e hf
    refine qi_puti hC em12 kp_X4_25 sh_6 rfl rfl rfl dX4_goesOn_84 ?_
    refine qi_aload_n hC 1 rfl rfl dX4_goesOn_87 ?_
    refine qi_aload_n hC 1 rfl rfl dX4_goesOn_88 ?_
    refine qi_geti hC kf_X4_28 sh_6 rfl dX4_goesOn_89 ?_
    obtain ⟨m13, em13, hf⟩ := qa_lt_e hf
    refine qi_puti hC em13 kp_X4_19 sh_6 rfl rfl rfl dX4_goesOn_92 ?_
    refine qi_goto (tgt := 150) hC (by decide) dX4_goesOn_95 ?_
    obtain rfl := Option.some.inj hf
    exact qi_vret hC hQ hK dX4_goesOn_150
set_option maxRecDepth 100000 in
set_option maxHeartbeats 4000000 in
theorem t_X4_goesOn_43 {X : qaX} {l : Launch} {Y : qaY} {fin : qaM} (hC : QC X l Y cX4_goesOn RX4 2 7) (hQ : QRv X Y fin) {m : qaM} {v1 : Int32} {z : ((qaM × Int32) ⊕ (qaM))} (hf : b_X4_goesOn_43 m v1 = some z) (hK : (qa_K (fun s => QG X Y 2 s.1 10 [(0, .ref (Y.2.2.1 6)), (1, .int s.2)] []) (qa_eq fin)) z) : QG X Y 2 m 43 [(0, .ref (Y.2.2.1 6)), (1, .int v1)] [] := by
  unfold b_X4_goesOn_43 at hf
  refine qi_aload_n hC 0 rfl rfl dX4_goesOn_43 ?_
  refine qi_dup hC rfl dX4_goesOn_44 ?_
  refine qi_geti hC kf_X4_28 sh_6 rfl dX4_goesOn_45 ?_
  refine qi_iconst hC dX4_goesOn_48 kn_iconst_1 ?_
  refine qi_iadd hC dX4_goesOn_49 ?_
  obtain ⟨m15, em15, hf⟩ := qa_lt_e hf
  refine qi_puti hC em15 kp_X4_28 sh_6 rfl rfl rfl dX4_goesOn_50 ?_
  obtain ⟨x16, ex16, hf⟩ := qa_lt_e hf
  refine qi_iinc hC (n := 1) (v := x16) 1 rfl ((congrArg (fun q => v1 + q) kn_iconst_1).trans ex16.symm) (by decide) rfl dX4_goesOn_53 ?_
  refine qi_goto (tgt := 10) hC (by decide) dX4_goesOn_56 ?_
  obtain rfl := Option.some.inj hf
  refine qi_sub hC [1, 0] rfl ?_
  exact hK
set_option maxRecDepth 100000 in
set_option maxHeartbeats 4000000 in
theorem t_X4_goesOn_10 {X : qaX} {l : Launch} {Y : qaY} {fin : qaM} (hC : QC X l Y cX4_goesOn RX4 2 7) (hQ : QRv X Y fin) {m : qaM} {v1 : Int32} {z : ((qaM × Int32) ⊕ (qaM))} (hf : b_X4_goesOn_10 m v1 = some z) (hK : (qa_K (fun s => QG X Y 2 s.1 10 [(0, .ref (Y.2.2.1 6)), (1, .int s.2)] []) (qa_eq fin)) z) : QG X Y 2 m 10 [(0, .ref (Y.2.2.1 6)), (1, .int v1)] [] := by
  unfold b_X4_goesOn_10 at hf
  refine qi_iload_n hC 1 rfl rfl dX4_goesOn_10 ?_
  refine qi_sipush hC dX4_goesOn_11 kn_sipush_160 ?_
  refine qi_icmp_ge (tgt := 59) hC (by decide) dX4_goesOn_14 (fun h => ?_) (fun h => ?_)
  · replace hf := qa_if_t h hf
    obtain ⟨z, rfl, hg⟩ := qa_inr_e hf; have hf := hg
    refine qi_sub hC [0] rfl ?_
    exact t_X4_goesOn_59 hC hQ hf hK
  · replace hf := qa_if_f h hf
    refine qi_aload_n hC 0 rfl rfl dX4_goesOn_17 ?_
    refine qi_aload_n hC 0 rfl rfl dX4_goesOn_18 ?_
    refine qi_geti hC kf_X4_28 sh_6 rfl dX4_goesOn_19 ?_
    obtain ⟨q14, hq14, hf⟩ := Option.bind_eq_some_iff.mp hf
    refine qi_callVi hC (as := [.int (m 6 2)]) (c_X4_byteAt _ _ _ _ _ hq14) kl_X4_62 sh_6 kc_X4_byteAt rfl rfl (by decide) (by decide) (Nat.le_of_ble_eq_true rfl) dX4_goesOn_22 ?_
    refine qi_bipush hC dX4_goesOn_25 kn_bipush_32 ?_
    refine qi_icmp_eq (tgt := 43) hC (by decide) dX4_goesOn_27 (fun h => ?_) (fun h => ?_)
    · replace hf := qa_if_t h hf
      exact t_X4_goesOn_43 hC hQ hf hK
    · replace hf := qa_if_f h hf
      refine qi_aload_n hC 0 rfl rfl dX4_goesOn_30 ?_
      refine qi_aload_n hC 0 rfl rfl dX4_goesOn_31 ?_
      refine qi_geti hC kf_X4_28 sh_6 rfl dX4_goesOn_32 ?_
      obtain ⟨q17, hq17, hf⟩ := Option.bind_eq_some_iff.mp hf
      refine qi_callVi hC (as := [.int (m 6 2)]) (c_X4_byteAt _ _ _ _ _ hq17) kl_X4_62 sh_6 kc_X4_byteAt rfl rfl (by decide) (by decide) (Nat.le_of_ble_eq_true rfl) dX4_goesOn_35 ?_
      refine qi_bipush hC dX4_goesOn_38 kn_bipush_10 ?_
      refine qi_icmp_ne (tgt := 59) hC (by decide) dX4_goesOn_40 (fun h => ?_) (fun h => ?_)
      · replace hf := qa_if_f h hf
        obtain ⟨z, rfl, hg⟩ := qa_inr_e hf; have hf := hg
        refine qi_sub hC [0] rfl ?_
        exact t_X4_goesOn_59 hC hQ hf hK
      · replace hf := qa_if_t h hf
        exact t_X4_goesOn_43 hC hQ hf hK
set_option maxRecDepth 100000 in
set_option maxHeartbeats 4000000 in
theorem tn_X4_goesOn_10 {X : qaX} {l : Launch} {Y : qaY} {fin : qaM} (hC : QC X l Y cX4_goesOn RX4 2 7) (hQ : QRv X Y fin) {z : (qaM)} (hK : (qa_eq fin) z) : ∀ (n : Nat) (s : qaM × Int32), qa_lp (fun s => b_X4_goesOn_10 s.1 s.2) n s = some z → QG X Y 2 s.1 10 [(0, .ref (Y.2.2.1 6)), (1, .int s.2)] [] := by
  intro n
  induction n with
  | zero => intro s hf; cases hf
  | succ n ih =>
    intro s hf
    obtain ⟨y, hy, hf⟩ := qa_lp_e hf
    refine t_X4_goesOn_10 hC hQ hy ?_
    rcases hf with ⟨s', rfl, hf⟩ | rfl
    · exact ih s' hf
    · exact hK
set_option maxRecDepth 100000 in
set_option maxHeartbeats 4000000 in
theorem tl_X4_goesOn_10 {X : qaX} {l : Launch} {Y : qaY} {fin : qaM} (hC : QC X l Y cX4_goesOn RX4 2 7) (hQ : QRv X Y fin) {m : qaM} {v1 : Int32} {z : (qaM)} (hf : lp_X4_goesOn_10 m v1 = some z) (hK : (qa_eq fin) z) : QG X Y 2 m 10 [(0, .ref (Y.2.2.1 6)), (1, .int v1)] [] :=
  tn_X4_goesOn_10 hC hQ hK qa_F (m, v1) hf
set_option maxRecDepth 100000 in
set_option maxHeartbeats 4000000 in
theorem c_X4_goesOn (l : Launch) (Y : qaY) (m : qaM) (q : qaM) (hf : f_X4_goesOn m = some q) : qaMv l Y yX4_goesOn cX4_goesOn 2 7 [.ref (Y.2.2.1 6)] m q := by
  refine qa_entv (by decide +kernel) (Nat.le_of_ble_eq_true rfl) fun X hC hQ => ?_
  have hK : qa_eq q q := rfl
  unfold f_X4_goesOn at hf
  refine qi_aload_n hC 0 rfl rfl dX4_goesOn_0 ?_
  refine qi_aload_n hC 0 rfl rfl dX4_goesOn_1 ?_
  refine qi_geti hC kf_X4_19 sh_6 rfl dX4_goesOn_2 ?_
  obtain ⟨m1, em1, hf⟩ := qa_lt_e hf
  refine qi_puti hC em1 kp_X4_28 sh_6 rfl rfl rfl dX4_goesOn_5 ?_
  refine qi_iconst hC dX4_goesOn_8 kn_iconst_0 ?_
  refine qi_istore_n hC rfl (by decide) rfl dX4_goesOn_9 ?_
  refine qi_sub hC [1, 0] rfl ?_
  exact tl_X4_goesOn_10 hC hQ hf hK
set_option maxRecDepth 100000 in
set_option maxHeartbeats 4000000 in
theorem t_X4_readsOne_49 {X : qaX} {l : Launch} {Y : qaY} {rec : Nat → qaM → Int32 → Option (Int32 × qaM)} {dd : Nat} {fin : Int32 × qaM} (hC : QC X l Y cX4_readsOne RX4 4 (dd + 8)) (hQ : QRi X Y (some .boolean) fin.2 fin.1) (hR : qaRec l Y rec dd) {m : qaM} {s1 : Int32} {z : (Int32 × qaM)} (hf : b_X4_readsOne_49 rec m s1 = some z) (hK : (qa_eq fin) z) : QG X Y 4 m 49 [(0, .ref (Y.2.2.1 6))] [.int s1, .ref (Y.2.2.1 1)] := by
  unfold b_X4_readsOne_49 at hf
  obtain ⟨q1, hq1, hf⟩ := Option.bind_eq_some_iff.mp hf
  refine qi_callVv hC (as := [.int s1]) (c_X5_adds _ _ _ _ _ hq1) kl_X4_44 sh_1 kc_X5_adds rfl rfl (by omega) (by decide) (Nat.le_of_ble_eq_true rfl) dX4_readsOne_49 ?_
  refine qi_aload_n hC 0 rfl rfl dX4_readsOne_52 ?_
  obtain ⟨q2, hq2, hf⟩ := Option.bind_eq_some_iff.mp hf
  refine qi_callVv hC (as := []) (c_X4_goesOn _ _ _ _ hq2) kl_X4_22 sh_6 kc_X4_goesOn rfl rfl (by omega) (by decide) (Nat.le_of_ble_eq_true rfl) dX4_readsOne_53 ?_
  refine qi_iconst hC dX4_readsOne_56 kn_iconst_1 ?_
  obtain rfl := Option.some.inj hf
  exact qi_iretz hC hQ hK rfl dX4_readsOne_57
set_option maxRecDepth 100000 in
set_option maxHeartbeats 4000000 in
theorem t_X4_readsOne_28 {X : qaX} {l : Launch} {Y : qaY} {rec : Nat → qaM → Int32 → Option (Int32 × qaM)} {dd : Nat} {fin : Int32 × qaM} (hC : QC X l Y cX4_readsOne RX4 4 (dd + 8)) (hQ : QRi X Y (some .boolean) fin.2 fin.1) (hR : qaRec l Y rec dd) {m : qaM} {z : (Int32 × qaM)} (hf : b_X4_readsOne_28 rec m = some z) (hK : (qa_eq fin) z) : QG X Y 4 m 28 [(0, .ref (Y.2.2.1 6)), (1, .ref (Y.2.2.1 1))] [] := by
  unfold b_X4_readsOne_28 at hf
  refine qi_aload_n hC 1 rfl rfl dX4_readsOne_28 ?_
  refine qi_aload_n hC 0 rfl rfl dX4_readsOne_29 ?_
  refine qi_geti hC kf_X4_25 sh_6 rfl dX4_readsOne_30 ?_
  refine qi_iconst hC dX4_readsOne_33 kn_iconst_2 ?_
  refine qi_icmp_ne (tgt := 44) hC (by decide) dX4_readsOne_34 (fun h => ?_) (fun h => ?_)
  · replace hf := qa_if_f h hf
    refine qi_aload_n hC 0 rfl rfl dX4_readsOne_44 ?_
    refine qi_geti hC kf_X4_25 sh_6 rfl dX4_readsOne_45 ?_
    refine qi_ineg hC dX4_readsOne_48 ?_
    refine qi_sub hC [0] rfl ?_
    exact t_X4_readsOne_49 hC hQ hR hf hK
  · replace hf := qa_if_t h hf
    refine qi_aload_n hC 0 rfl rfl dX4_readsOne_37 ?_
    refine qi_geti hC kf_X4_59 sh_6 rfl dX4_readsOne_38 ?_
    refine qi_goto (tgt := 49) hC (by decide) dX4_readsOne_41 ?_
    refine qi_sub hC [0] rfl ?_
    exact t_X4_readsOne_49 hC hQ hR hf hK
set_option maxRecDepth 100000 in
set_option maxHeartbeats 4000000 in
theorem t_X4_readsOne_76 {X : qaX} {l : Launch} {Y : qaY} {rec : Nat → qaM → Int32 → Option (Int32 × qaM)} {dd : Nat} {fin : Int32 × qaM} (hC : QC X l Y cX4_readsOne RX4 4 (dd + 8)) (hQ : QRi X Y (some .boolean) fin.2 fin.1) (hR : qaRec l Y rec dd) {m : qaM} {v2 : Int32} {z : (Int32 × qaM)} (hf : b_X4_readsOne_76 rec m v2 = some z) (hK : (qa_eq fin) z) : QG X Y 4 m 76 [(0, .ref (Y.2.2.1 6)), (1, .ref (Y.2.2.1 1)), (2, .int v2)] [] := by
  unfold b_X4_readsOne_76 at hf
  refine qi_iload_n hC 2 rfl rfl dX4_readsOne_76 ?_
  refine qi_iconst hC dX4_readsOne_77 kn_iconst_5 ?_
  refine qi_icmp_lt (tgt := 83) hC (by decide) dX4_readsOne_78 (fun h => ?_) (fun h => ?_)
  · replace hf := qa_if_t h hf
    refine qi_aload_n hC 0 rfl rfl dX4_readsOne_83 ?_
    refine qi_geti hC kf_X4_25 sh_6 rfl dX4_readsOne_84 ?_
    refine qi_bipush hC dX4_readsOne_87 kn_bipush_45 ?_
    refine qi_icmp_ne (tgt := 114) hC (by decide) dX4_readsOne_89 (fun h => ?_) (fun h => ?_)
    · replace hf := qa_if_f h hf
      refine qi_aload_n hC 0 rfl rfl dX4_readsOne_114 ?_
      obtain ⟨q3, hq3, hf⟩ := Option.bind_eq_some_iff.mp hf
      refine qi_callVv hC (as := []) (c_X4_goesOn _ _ _ _ hq3) kl_X4_22 sh_6 kc_X4_goesOn rfl rfl (by omega) (by decide) (Nat.le_of_ble_eq_true rfl) dX4_readsOne_115 ?_
      refine qi_aload_n hC 0 rfl rfl dX4_readsOne_118 ?_
      refine qi_aload_n hC 1 rfl rfl dX4_readsOne_119 ?_
      refine qi_iload_n hC 2 rfl rfl dX4_readsOne_120 ?_
      refine qi_iconst hC dX4_readsOne_121 kn_iconst_1 ?_
      refine qi_iadd hC dX4_readsOne_122 ?_
      obtain ⟨q4, hq4, hf⟩ := Option.bind_eq_some_iff.mp hf
      refine qi_callVi hC (as := [.ref (Y.2.2.1 1), .int (v2 + (1 : Int32))]) (hR.1 _ _ _ hq4) kl_X4_31 sh_6 kc_X4_readsEither rfl rfl (by omega) (by decide) (Nat.le_of_ble_eq_true rfl) dX4_readsOne_123 ?_
      refine qi_if_eq (tgt := 138) hC (by decide) dX4_readsOne_126 (fun h => ?_) (fun h => ?_)
      · replace hf := qa_if_t h hf
        refine qi_iconst hC dX4_readsOne_138 kn_iconst_0 ?_
        obtain rfl := Option.some.inj hf
        exact qi_iretz hC hQ hK rfl dX4_readsOne_139
      · replace hf := qa_if_f h hf
        refine qi_aload_n hC 0 rfl rfl dX4_readsOne_129 ?_
        refine qi_geti hC kf_X4_25 sh_6 rfl dX4_readsOne_130 ?_
        refine qi_bipush hC dX4_readsOne_133 kn_bipush_41 ?_
        refine qi_icmp_eq (tgt := 140) hC (by decide) dX4_readsOne_135 (fun h => ?_) (fun h => ?_)
        · replace hf := qa_if_t h hf
          refine qi_aload_n hC 0 rfl rfl dX4_readsOne_140 ?_
          obtain ⟨q5, hq5, hf⟩ := Option.bind_eq_some_iff.mp hf
          refine qi_callVv hC (as := []) (c_X4_goesOn _ _ _ _ hq5) kl_X4_22 sh_6 kc_X4_goesOn rfl rfl (by omega) (by decide) (Nat.le_of_ble_eq_true rfl) dX4_readsOne_141 ?_
          refine qi_iconst hC dX4_readsOne_144 kn_iconst_1 ?_
          obtain rfl := Option.some.inj hf
          exact qi_iretz hC hQ hK rfl dX4_readsOne_145
        · replace hf := qa_if_f h hf
          refine qi_iconst hC dX4_readsOne_138 kn_iconst_0 ?_
          obtain rfl := Option.some.inj hf
          exact qi_iretz hC hQ hK rfl dX4_readsOne_139
    · replace hf := qa_if_t h hf
      refine qi_aload_n hC 0 rfl rfl dX4_readsOne_92 ?_
      obtain ⟨q6, hq6, hf⟩ := Option.bind_eq_some_iff.mp hf
      refine qi_callVv hC (as := []) (c_X4_goesOn _ _ _ _ hq6) kl_X4_22 sh_6 kc_X4_goesOn rfl rfl (by omega) (by decide) (Nat.le_of_ble_eq_true rfl) dX4_readsOne_93 ?_
      refine qi_aload_n hC 0 rfl rfl dX4_readsOne_96 ?_
      refine qi_aload_n hC 1 rfl rfl dX4_readsOne_97 ?_
      refine qi_iload_n hC 2 rfl rfl dX4_readsOne_98 ?_
      refine qi_iconst hC dX4_readsOne_99 kn_iconst_1 ?_
      refine qi_iadd hC dX4_readsOne_100 ?_
      obtain ⟨q7, hq7, hf⟩ := Option.bind_eq_some_iff.mp hf
      refine qi_callVi hC (as := [.ref (Y.2.2.1 1), .int (v2 + (1 : Int32))]) (hR.2.2.2.2.2 _ _ _ hq7) kl_X4_56 sh_6 kc_X4_readsOne rfl rfl (by omega) (by decide) (Nat.le_of_ble_eq_true rfl) dX4_readsOne_101 ?_
      refine qi_istore_n hC rfl (by decide) rfl dX4_readsOne_104 ?_
      refine qi_aload_n hC 2 rfl rfl dX4_readsOne_105 ?_
      refine qi_sipush hC dX4_readsOne_106 kn_sipush_m200 ?_
      obtain ⟨q8, hq8, hf⟩ := Option.bind_eq_some_iff.mp hf
      refine qi_callVv hC (as := [.int (-200 : Int32)]) (c_X5_adds _ _ _ _ _ hq8) kl_X4_44 sh_1 kc_X5_adds rfl rfl (by omega) (by decide) (Nat.le_of_ble_eq_true rfl) dX4_readsOne_109 ?_
      refine qi_iload_n hC 0 rfl rfl dX4_readsOne_112 ?_
      obtain ⟨h9, hf⟩ := qa_ck_e hf
      obtain rfl := Option.some.inj hf
      exact qi_iretz hC hQ hK (qa_bl_n h9) dX4_readsOne_113
  · replace hf := qa_if_f h hf
    refine qi_iconst hC dX4_readsOne_81 kn_iconst_0 ?_
    obtain rfl := Option.some.inj hf
    exact qi_iretz hC hQ hK rfl dX4_readsOne_82
set_option maxRecDepth 100000 in
set_option maxHeartbeats 4000000 in
theorem t_X4_readsOne_58 {X : qaX} {l : Launch} {Y : qaY} {rec : Nat → qaM → Int32 → Option (Int32 × qaM)} {dd : Nat} {fin : Int32 × qaM} (hC : QC X l Y cX4_readsOne RX4 4 (dd + 8)) (hQ : QRi X Y (some .boolean) fin.2 fin.1) (hR : qaRec l Y rec dd) {m : qaM} {v2 : Int32} {z : (Int32 × qaM)} (hf : b_X4_readsOne_58 rec m v2 = some z) (hK : (qa_eq fin) z) : QG X Y 4 m 58 [(0, .ref (Y.2.2.1 6)), (1, .ref (Y.2.2.1 1)), (2, .int v2)] [] := by
  unfold b_X4_readsOne_58 at hf
  refine qi_aload_n hC 0 rfl rfl dX4_readsOne_58 ?_
  refine qi_geti hC kf_X4_25 sh_6 rfl dX4_readsOne_59 ?_
  refine qi_bipush hC dX4_readsOne_62 kn_bipush_45 ?_
  refine qi_icmp_eq (tgt := 76) hC (by decide) dX4_readsOne_64 (fun h => ?_) (fun h => ?_)
  · replace hf := qa_if_t h hf
    exact t_X4_readsOne_76 hC hQ hR hf hK
  · replace hf := qa_if_f h hf
    refine qi_aload_n hC 0 rfl rfl dX4_readsOne_67 ?_
    refine qi_geti hC kf_X4_25 sh_6 rfl dX4_readsOne_68 ?_
    refine qi_bipush hC dX4_readsOne_71 kn_bipush_40 ?_
    refine qi_icmp_ne (tgt := 81) hC (by decide) dX4_readsOne_73 (fun h => ?_) (fun h => ?_)
    · replace hf := qa_if_f h hf
      refine qi_iconst hC dX4_readsOne_81 kn_iconst_0 ?_
      obtain rfl := Option.some.inj hf
      exact qi_iretz hC hQ hK rfl dX4_readsOne_82
    · replace hf := qa_if_t h hf
      exact t_X4_readsOne_76 hC hQ hR hf hK
set_option maxRecDepth 100000 in
set_option maxHeartbeats 4000000 in
theorem c_X4_readsOne (l : Launch) (Y : qaY) {rec : Nat → qaM → Int32 → Option (Int32 × qaM)} {dd : Nat} (hR : qaRec l Y rec dd) (m : qaM) (v2 : Int32) (q : Int32 × qaM) (hf : f_X4_readsOne rec m v2 = some q) : qaMi l Y yX4_readsOne cX4_readsOne 4 (some .boolean) (dd + 8) [.ref (Y.2.2.1 6), .ref (Y.2.2.1 1), .int v2] m q.2 q.1 := by
  refine qa_enti (by decide +kernel) (Nat.le_of_ble_eq_true rfl) fun X hC hQ => ?_
  have hK : qa_eq q q := rfl
  unfold f_X4_readsOne at hf
  refine qi_aload_n hC 0 rfl rfl dX4_readsOne_0 ?_
  refine qi_geti hC kf_X4_25 sh_6 rfl dX4_readsOne_1 ?_
  refine qi_iconst hC dX4_readsOne_4 kn_iconst_2 ?_
  refine qi_icmp_eq (tgt := 28) hC (by decide) dX4_readsOne_5 (fun h => ?_) (fun h => ?_)
  · replace hf := qa_if_t h hf
    refine qi_sub hC [0, 1] rfl ?_
    exact t_X4_readsOne_28 hC hQ hR hf hK
  · replace hf := qa_if_f h hf
    refine qi_aload_n hC 0 rfl rfl dX4_readsOne_8 ?_
    refine qi_geti hC kf_X4_25 sh_6 rfl dX4_readsOne_9 ?_
    refine qi_sipush hC dX4_readsOne_12 kn_sipush_306 ?_
    refine qi_icmp_lt (tgt := 58) hC (by decide) dX4_readsOne_15 (fun h => ?_) (fun h => ?_)
    · replace hf := qa_if_t h hf
      exact t_X4_readsOne_58 hC hQ hR hf hK
    · replace hf := qa_if_f h hf
      refine qi_aload_n hC 0 rfl rfl dX4_readsOne_18 ?_
      refine qi_geti hC kf_X4_25 sh_6 rfl dX4_readsOne_19 ?_
      refine qi_sipush hC dX4_readsOne_22 kn_sipush_312 ?_
      refine qi_icmp_ge (tgt := 58) hC (by decide) dX4_readsOne_25 (fun h => ?_) (fun h => ?_)
      · replace hf := qa_if_t h hf
        exact t_X4_readsOne_58 hC hQ hR hf hK
      · replace hf := qa_if_f h hf
        refine qi_sub hC [0, 1] rfl ?_
        exact t_X4_readsOne_28 hC hQ hR hf hK
set_option maxRecDepth 100000 in
set_option maxHeartbeats 4000000 in
theorem t_X4_readsTerm_10 {X : qaX} {l : Launch} {Y : qaY} {rec : Nat → qaM → Int32 → Option (Int32 × qaM)} {dd : Nat} {fin : Int32 × qaM} (hC : QC X l Y cX4_readsTerm RX4 5 (dd + 8)) (hQ : QRi X Y (some .boolean) fin.2 fin.1) (hR : qaRec l Y rec dd) {m : qaM} {v2 : Int32} {v3 : Int32} {v4 : Int32} {z : ((qaM × Int32 × Int32) ⊕ (Int32 × qaM))} (hf : b_X4_readsTerm_10 rec m v2 v3 v4 = some z) (hK : (qa_K (fun s => QG X Y 5 s.1 10 [(0, .ref (Y.2.2.1 6)), (1, .ref (Y.2.2.1 1)), (2, .int v2), (3, .int s.2.1), (4, .int s.2.2)] []) (qa_eq fin)) z) : QG X Y 5 m 10 [(0, .ref (Y.2.2.1 6)), (1, .ref (Y.2.2.1 1)), (2, .int v2), (3, .int v3), (4, .int v4)] [] := by
  unfold b_X4_readsTerm_10 at hf
  refine qi_iload hC 4 rfl dX4_readsTerm_10 ?_
  refine qi_sipush hC dX4_readsTerm_12 kn_sipush_160 ?_
  refine qi_icmp_ge (tgt := 54) hC (by decide) dX4_readsTerm_15 (fun h => ?_) (fun h => ?_)
  · replace hf := qa_if_t h hf
    refine qi_iload_n hC 3 rfl rfl dX4_readsTerm_54 ?_
    obtain ⟨h2, hf⟩ := qa_ck_e hf
    obtain ⟨z, rfl, hg⟩ := qa_inr_e hf; have hf := hg
    obtain rfl := Option.some.inj hf
    exact qi_iretz hC hQ hK (qa_bl_n h2) dX4_readsTerm_55
  · replace hf := qa_if_f h hf
    refine qi_iload_n hC 3 rfl rfl dX4_readsTerm_18 ?_
    refine qi_if_eq (tgt := 54) hC (by decide) dX4_readsTerm_19 (fun h => ?_) (fun h => ?_)
    · replace hf := qa_if_t h hf
      refine qi_iload_n hC 3 rfl rfl dX4_readsTerm_54 ?_
      obtain ⟨h3, hf⟩ := qa_ck_e hf
      obtain ⟨z, rfl, hg⟩ := qa_inr_e hf; have hf := hg
      obtain rfl := Option.some.inj hf
      exact qi_iretz hC hQ hK (qa_bl_n h3) dX4_readsTerm_55
    · replace hf := qa_if_f h hf
      refine qi_aload_n hC 0 rfl rfl dX4_readsTerm_22 ?_
      refine qi_geti hC kf_X4_25 sh_6 rfl dX4_readsTerm_23 ?_
      refine qi_bipush hC dX4_readsTerm_26 kn_bipush_42 ?_
      refine qi_icmp_ne (tgt := 54) hC (by decide) dX4_readsTerm_28 (fun h => ?_) (fun h => ?_)
      · replace hf := qa_if_f h hf
        refine qi_iload_n hC 3 rfl rfl dX4_readsTerm_54 ?_
        obtain ⟨h4, hf⟩ := qa_ck_e hf
        obtain ⟨z, rfl, hg⟩ := qa_inr_e hf; have hf := hg
        obtain rfl := Option.some.inj hf
        exact qi_iretz hC hQ hK (qa_bl_n h4) dX4_readsTerm_55
      · replace hf := qa_if_t h hf
        refine qi_aload_n hC 0 rfl rfl dX4_readsTerm_31 ?_
        obtain ⟨q5, hq5, hf⟩ := Option.bind_eq_some_iff.mp hf
        refine qi_callVv hC (as := []) (c_X4_goesOn _ _ _ _ hq5) kl_X4_22 sh_6 kc_X4_goesOn rfl rfl (by omega) (by decide) (Nat.le_of_ble_eq_true rfl) dX4_readsTerm_32 ?_
        refine qi_aload_n hC 0 rfl rfl dX4_readsTerm_35 ?_
        refine qi_aload_n hC 1 rfl rfl dX4_readsTerm_36 ?_
        refine qi_iload_n hC 2 rfl rfl dX4_readsTerm_37 ?_
        obtain ⟨q6, hq6, hf⟩ := Option.bind_eq_some_iff.mp hf
        refine qi_callVi hC (as := [.ref (Y.2.2.1 1), .int v2]) (hR.2.2.2.2.2 _ _ _ hq6) kl_X4_56 sh_6 kc_X4_readsOne rfl rfl (by omega) (by decide) (Nat.le_of_ble_eq_true rfl) dX4_readsTerm_38 ?_
        refine qi_istore_n hC rfl (by decide) rfl dX4_readsTerm_41 ?_
        refine qi_aload_n hC 2 rfl rfl dX4_readsTerm_42 ?_
        refine qi_bipush hC dX4_readsTerm_43 kn_bipush_m42 ?_
        obtain ⟨q7, hq7, hf⟩ := Option.bind_eq_some_iff.mp hf
        refine qi_callVv hC (as := [.int (-42 : Int32)]) (c_X5_adds _ _ _ _ _ hq7) kl_X4_44 sh_1 kc_X5_adds rfl rfl (by omega) (by decide) (Nat.le_of_ble_eq_true rfl) dX4_readsTerm_45 ?_
        obtain ⟨x8, ex8, hf⟩ := qa_lt_e hf
        refine qi_iinc hC (n := 1) (v := x8) 4 rfl ((congrArg (fun q => v4 + q) kn_iconst_1).trans ex8.symm) (by decide) rfl dX4_readsTerm_48 ?_
        refine qi_goto (tgt := 10) hC (by decide) dX4_readsTerm_51 ?_
        obtain rfl := Option.some.inj hf
        refine qi_sub hC [2, 3, 4, 1, 0] rfl ?_
        exact hK
set_option maxRecDepth 100000 in
set_option maxHeartbeats 4000000 in
theorem tn_X4_readsTerm_10 {X : qaX} {l : Launch} {Y : qaY} {rec : Nat → qaM → Int32 → Option (Int32 × qaM)} {dd : Nat} {fin : Int32 × qaM} (hC : QC X l Y cX4_readsTerm RX4 5 (dd + 8)) (hQ : QRi X Y (some .boolean) fin.2 fin.1) (hR : qaRec l Y rec dd) {v2 : Int32} {z : (Int32 × qaM)} (hK : (qa_eq fin) z) : ∀ (n : Nat) (s : qaM × Int32 × Int32), qa_lp (fun s => b_X4_readsTerm_10 rec s.1 v2 s.2.1 s.2.2) n s = some z → QG X Y 5 s.1 10 [(0, .ref (Y.2.2.1 6)), (1, .ref (Y.2.2.1 1)), (2, .int v2), (3, .int s.2.1), (4, .int s.2.2)] [] := by
  intro n
  induction n with
  | zero => intro s hf; cases hf
  | succ n ih =>
    intro s hf
    obtain ⟨y, hy, hf⟩ := qa_lp_e hf
    refine t_X4_readsTerm_10 hC hQ hR hy ?_
    rcases hf with ⟨s', rfl, hf⟩ | rfl
    · exact ih s' hf
    · exact hK
set_option maxRecDepth 100000 in
set_option maxHeartbeats 4000000 in
theorem tl_X4_readsTerm_10 {X : qaX} {l : Launch} {Y : qaY} {rec : Nat → qaM → Int32 → Option (Int32 × qaM)} {dd : Nat} {fin : Int32 × qaM} (hC : QC X l Y cX4_readsTerm RX4 5 (dd + 8)) (hQ : QRi X Y (some .boolean) fin.2 fin.1) (hR : qaRec l Y rec dd) {m : qaM} {v2 : Int32} {v3 : Int32} {v4 : Int32} {z : (Int32 × qaM)} (hf : lp_X4_readsTerm_10 rec m v2 v3 v4 = some z) (hK : (qa_eq fin) z) : QG X Y 5 m 10 [(0, .ref (Y.2.2.1 6)), (1, .ref (Y.2.2.1 1)), (2, .int v2), (3, .int v3), (4, .int v4)] [] :=
  tn_X4_readsTerm_10 hC hQ hR hK qa_F (m, v3, v4) hf
set_option maxRecDepth 100000 in
set_option maxHeartbeats 4000000 in
theorem c_X4_readsTerm (l : Launch) (Y : qaY) {rec : Nat → qaM → Int32 → Option (Int32 × qaM)} {dd : Nat} (hR : qaRec l Y rec dd) (m : qaM) (v2 : Int32) (q : Int32 × qaM) (hf : f_X4_readsTerm rec m v2 = some q) : qaMi l Y yX4_readsTerm cX4_readsTerm 5 (some .boolean) (dd + 8) [.ref (Y.2.2.1 6), .ref (Y.2.2.1 1), .int v2] m q.2 q.1 := by
  refine qa_enti (by decide +kernel) (Nat.le_of_ble_eq_true rfl) fun X hC hQ => ?_
  have hK : qa_eq q q := rfl
  unfold f_X4_readsTerm at hf
  refine qi_aload_n hC 0 rfl rfl dX4_readsTerm_0 ?_
  refine qi_aload_n hC 1 rfl rfl dX4_readsTerm_1 ?_
  refine qi_iload_n hC 2 rfl rfl dX4_readsTerm_2 ?_
  obtain ⟨q1, hq1, hf⟩ := Option.bind_eq_some_iff.mp hf
  refine qi_callVi hC (as := [.ref (Y.2.2.1 1), .int v2]) (hR.2.2.2.2.2 _ _ _ hq1) kl_X4_56 sh_6 kc_X4_readsOne rfl rfl (by omega) (by decide) (Nat.le_of_ble_eq_true rfl) dX4_readsTerm_3 ?_
  refine qi_istore_n hC rfl (by decide) rfl dX4_readsTerm_6 ?_
  refine qi_iconst hC dX4_readsTerm_7 kn_iconst_0 ?_
  refine qi_istore hC (by decide) rfl dX4_readsTerm_8 ?_
  refine qi_sub hC [2, 3, 4, 1, 0] rfl ?_
  exact tl_X4_readsTerm_10 hC hQ hR hf hK
set_option maxRecDepth 100000 in
set_option maxHeartbeats 4000000 in
theorem t_X4_readsSum_40 {X : qaX} {l : Launch} {Y : qaY} {rec : Nat → qaM → Int32 → Option (Int32 × qaM)} {dd : Nat} {fin : Int32 × qaM} (hC : QC X l Y cX4_readsSum RX4 6 (dd + 8)) (hQ : QRi X Y (some .boolean) fin.2 fin.1) (hR : qaRec l Y rec dd) {m : qaM} {v2 : Int32} {v4 : Int32} {z : ((qaM × Int32 × Int32) ⊕ (Int32 × qaM))} (hf : b_X4_readsSum_40 rec m v2 v4 = some z) (hK : (qa_K (fun s => QG X Y 6 s.1 10 [(0, .ref (Y.2.2.1 6)), (1, .ref (Y.2.2.1 1)), (2, .int v2), (3, .int s.2.1), (4, .int s.2.2)] []) (qa_eq fin)) z) : QG X Y 6 m 40 [(0, .ref (Y.2.2.1 6)), (1, .ref (Y.2.2.1 1)), (2, .int v2), (4, .int v4)] [] := by
  unfold b_X4_readsSum_40 at hf
  refine qi_aload_n hC 0 rfl rfl dX4_readsSum_40 ?_
  refine qi_geti hC kf_X4_25 sh_6 rfl dX4_readsSum_41 ?_
  obtain ⟨x4, ex4, hf⟩ := qa_lt_e hf
  refine qi_nmi hC ex4 ?_
  refine qi_istore hC (by decide) rfl dX4_readsSum_44 ?_
  refine qi_aload_n hC 1 rfl rfl dX4_readsSum_46 ?_
  obtain ⟨q5, hq5, hf⟩ := Option.bind_eq_some_iff.mp hf
  refine qi_callVv hC (as := []) (c_X4_goesOn _ _ _ _ hq5) kl_X4_22 sh_6 kc_X4_goesOn rfl rfl (by omega) (by decide) (Nat.le_of_ble_eq_true rfl) dX4_readsSum_47 ?_
  refine qi_aload_n hC 1 rfl rfl dX4_readsSum_50 ?_
  refine qi_aload_n hC 2 rfl rfl dX4_readsSum_51 ?_
  refine qi_iload_n hC 3 rfl rfl dX4_readsSum_52 ?_
  obtain ⟨q6, hq6, hf⟩ := Option.bind_eq_some_iff.mp hf
  refine qi_callVi hC (as := [.ref (Y.2.2.1 1), .int v2]) (hR.2.2.2.2.1 _ _ _ hq6) kl_X4_53 sh_6 kc_X4_readsTerm rfl rfl (by omega) (by decide) (Nat.le_of_ble_eq_true rfl) dX4_readsSum_53 ?_
  refine qi_istore_n hC rfl (by decide) rfl dX4_readsSum_56 ?_
  refine qi_aload_n hC 3 rfl rfl dX4_readsSum_57 ?_
  refine qi_iload hC 1 rfl dX4_readsSum_58 ?_
  refine qi_ineg hC dX4_readsSum_60 ?_
  obtain ⟨q7, hq7, hf⟩ := Option.bind_eq_some_iff.mp hf
  refine qi_callVv hC (as := [.int (-x4)]) (c_X5_adds _ _ _ _ _ hq7) kl_X4_44 sh_1 kc_X5_adds rfl rfl (by omega) (by decide) (Nat.le_of_ble_eq_true rfl) dX4_readsSum_61 ?_
  obtain ⟨x8, ex8, hf⟩ := qa_lt_e hf
  refine qi_iinc hC (n := 1) (v := x8) 5 rfl ((congrArg (fun q => v4 + q) kn_iconst_1).trans ex8.symm) (by decide) rfl dX4_readsSum_64 ?_
  refine qi_goto (tgt := 10) hC (by decide) dX4_readsSum_67 ?_
  obtain rfl := Option.some.inj hf
  refine qi_sub hC [3, 4, 5, 1, 0] rfl ?_
  exact hK
set_option maxRecDepth 100000 in
set_option maxHeartbeats 4000000 in
theorem t_X4_readsSum_10 {X : qaX} {l : Launch} {Y : qaY} {rec : Nat → qaM → Int32 → Option (Int32 × qaM)} {dd : Nat} {fin : Int32 × qaM} (hC : QC X l Y cX4_readsSum RX4 6 (dd + 8)) (hQ : QRi X Y (some .boolean) fin.2 fin.1) (hR : qaRec l Y rec dd) {m : qaM} {v2 : Int32} {v3 : Int32} {v4 : Int32} {z : ((qaM × Int32 × Int32) ⊕ (Int32 × qaM))} (hf : b_X4_readsSum_10 rec m v2 v3 v4 = some z) (hK : (qa_K (fun s => QG X Y 6 s.1 10 [(0, .ref (Y.2.2.1 6)), (1, .ref (Y.2.2.1 1)), (2, .int v2), (3, .int s.2.1), (4, .int s.2.2)] []) (qa_eq fin)) z) : QG X Y 6 m 10 [(0, .ref (Y.2.2.1 6)), (1, .ref (Y.2.2.1 1)), (2, .int v2), (3, .int v3), (4, .int v4)] [] := by
  unfold b_X4_readsSum_10 at hf
  refine qi_iload hC 4 rfl dX4_readsSum_10 ?_
  refine qi_sipush hC dX4_readsSum_12 kn_sipush_160 ?_
  refine qi_icmp_ge (tgt := 70) hC (by decide) dX4_readsSum_15 (fun h => ?_) (fun h => ?_)
  · replace hf := qa_if_t h hf
    refine qi_iload_n hC 3 rfl rfl dX4_readsSum_70 ?_
    obtain ⟨h2, hf⟩ := qa_ck_e hf
    obtain ⟨z, rfl, hg⟩ := qa_inr_e hf; have hf := hg
    obtain rfl := Option.some.inj hf
    exact qi_iretz hC hQ hK (qa_bl_n h2) dX4_readsSum_71
  · replace hf := qa_if_f h hf
    refine qi_iload_n hC 3 rfl rfl dX4_readsSum_18 ?_
    refine qi_if_eq (tgt := 70) hC (by decide) dX4_readsSum_19 (fun h => ?_) (fun h => ?_)
    · replace hf := qa_if_t h hf
      refine qi_iload_n hC 3 rfl rfl dX4_readsSum_70 ?_
      obtain ⟨h3, hf⟩ := qa_ck_e hf
      obtain ⟨z, rfl, hg⟩ := qa_inr_e hf; have hf := hg
      obtain rfl := Option.some.inj hf
      exact qi_iretz hC hQ hK (qa_bl_n h3) dX4_readsSum_71
    · replace hf := qa_if_f h hf
      refine qi_aload_n hC 0 rfl rfl dX4_readsSum_22 ?_
      refine qi_geti hC kf_X4_25 sh_6 rfl dX4_readsSum_23 ?_
      refine qi_bipush hC dX4_readsSum_26 kn_bipush_43 ?_
      refine qi_icmp_eq (tgt := 40) hC (by decide) dX4_readsSum_28 (fun h => ?_) (fun h => ?_)
      · replace hf := qa_if_t h hf
        refine qi_sub hC [0, 1, 2, 4] rfl ?_
        exact t_X4_readsSum_40 hC hQ hR hf hK
      · replace hf := qa_if_f h hf
        refine qi_aload_n hC 0 rfl rfl dX4_readsSum_31 ?_
        refine qi_geti hC kf_X4_25 sh_6 rfl dX4_readsSum_32 ?_
        refine qi_bipush hC dX4_readsSum_35 kn_bipush_45 ?_
        refine qi_icmp_ne (tgt := 70) hC (by decide) dX4_readsSum_37 (fun h => ?_) (fun h => ?_)
        · replace hf := qa_if_f h hf
          refine qi_iload_n hC 3 rfl rfl dX4_readsSum_70 ?_
          obtain ⟨h9, hf⟩ := qa_ck_e hf
          obtain ⟨z, rfl, hg⟩ := qa_inr_e hf; have hf := hg
          obtain rfl := Option.some.inj hf
          exact qi_iretz hC hQ hK (qa_bl_n h9) dX4_readsSum_71
        · replace hf := qa_if_t h hf
          refine qi_sub hC [0, 1, 2, 4] rfl ?_
          exact t_X4_readsSum_40 hC hQ hR hf hK
set_option maxRecDepth 100000 in
set_option maxHeartbeats 4000000 in
theorem tn_X4_readsSum_10 {X : qaX} {l : Launch} {Y : qaY} {rec : Nat → qaM → Int32 → Option (Int32 × qaM)} {dd : Nat} {fin : Int32 × qaM} (hC : QC X l Y cX4_readsSum RX4 6 (dd + 8)) (hQ : QRi X Y (some .boolean) fin.2 fin.1) (hR : qaRec l Y rec dd) {v2 : Int32} {z : (Int32 × qaM)} (hK : (qa_eq fin) z) : ∀ (n : Nat) (s : qaM × Int32 × Int32), qa_lp (fun s => b_X4_readsSum_10 rec s.1 v2 s.2.1 s.2.2) n s = some z → QG X Y 6 s.1 10 [(0, .ref (Y.2.2.1 6)), (1, .ref (Y.2.2.1 1)), (2, .int v2), (3, .int s.2.1), (4, .int s.2.2)] [] := by
  intro n
  induction n with
  | zero => intro s hf; cases hf
  | succ n ih =>
    intro s hf
    obtain ⟨y, hy, hf⟩ := qa_lp_e hf
    refine t_X4_readsSum_10 hC hQ hR hy ?_
    rcases hf with ⟨s', rfl, hf⟩ | rfl
    · exact ih s' hf
    · exact hK
set_option maxRecDepth 100000 in
set_option maxHeartbeats 4000000 in
theorem tl_X4_readsSum_10 {X : qaX} {l : Launch} {Y : qaY} {rec : Nat → qaM → Int32 → Option (Int32 × qaM)} {dd : Nat} {fin : Int32 × qaM} (hC : QC X l Y cX4_readsSum RX4 6 (dd + 8)) (hQ : QRi X Y (some .boolean) fin.2 fin.1) (hR : qaRec l Y rec dd) {m : qaM} {v2 : Int32} {v3 : Int32} {v4 : Int32} {z : (Int32 × qaM)} (hf : lp_X4_readsSum_10 rec m v2 v3 v4 = some z) (hK : (qa_eq fin) z) : QG X Y 6 m 10 [(0, .ref (Y.2.2.1 6)), (1, .ref (Y.2.2.1 1)), (2, .int v2), (3, .int v3), (4, .int v4)] [] :=
  tn_X4_readsSum_10 hC hQ hR hK qa_F (m, v3, v4) hf
set_option maxRecDepth 100000 in
set_option maxHeartbeats 4000000 in
theorem c_X4_readsSum (l : Launch) (Y : qaY) {rec : Nat → qaM → Int32 → Option (Int32 × qaM)} {dd : Nat} (hR : qaRec l Y rec dd) (m : qaM) (v2 : Int32) (q : Int32 × qaM) (hf : f_X4_readsSum rec m v2 = some q) : qaMi l Y yX4_readsSum cX4_readsSum 6 (some .boolean) (dd + 8) [.ref (Y.2.2.1 6), .ref (Y.2.2.1 1), .int v2] m q.2 q.1 := by
  refine qa_enti (by decide +kernel) (Nat.le_of_ble_eq_true rfl) fun X hC hQ => ?_
  have hK : qa_eq q q := rfl
  unfold f_X4_readsSum at hf
  refine qi_aload_n hC 0 rfl rfl dX4_readsSum_0 ?_
  refine qi_aload_n hC 1 rfl rfl dX4_readsSum_1 ?_
  refine qi_iload_n hC 2 rfl rfl dX4_readsSum_2 ?_
  obtain ⟨q1, hq1, hf⟩ := Option.bind_eq_some_iff.mp hf
  refine qi_callVi hC (as := [.ref (Y.2.2.1 1), .int v2]) (hR.2.2.2.2.1 _ _ _ hq1) kl_X4_53 sh_6 kc_X4_readsTerm rfl rfl (by omega) (by decide) (Nat.le_of_ble_eq_true rfl) dX4_readsSum_3 ?_
  refine qi_istore_n hC rfl (by decide) rfl dX4_readsSum_6 ?_
  refine qi_iconst hC dX4_readsSum_7 kn_iconst_0 ?_
  refine qi_istore hC (by decide) rfl dX4_readsSum_8 ?_
  refine qi_sub hC [2, 3, 4, 1, 0] rfl ?_
  exact tl_X4_readsSum_10 hC hQ hR hf hK
set_option maxRecDepth 100000 in
set_option maxHeartbeats 4000000 in
theorem t_X4_readsNot_68 {X : qaX} {l : Launch} {Y : qaY} {rec : Nat → qaM → Int32 → Option (Int32 × qaM)} {dd : Nat} {fin : Int32 × qaM} (hC : QC X l Y cX4_readsNot RX4 5 (dd + 8)) (hQ : QRi X Y (some .boolean) fin.2 fin.1) (hR : qaRec l Y rec dd) {m : qaM} {v2 : Int32} {z : (Int32 × qaM)} (hf : b_X4_readsNot_68 rec m v2 = some z) (hK : (qa_eq fin) z) : QG X Y 5 m 68 [(0, .ref (Y.2.2.1 6)), (1, .ref (Y.2.2.1 1)), (2, .int v2)] [] := by
  unfold b_X4_readsNot_68 at hf
  refine qi_aload_n hC 0 rfl rfl dX4_readsNot_68 ?_
  refine qi_geti hC kf_X4_25 sh_6 rfl dX4_readsNot_69 ?_
  obtain ⟨x3, ex3, hf⟩ := qa_lt_e hf
  refine qi_nmi hC ex3 ?_
  refine qi_istore hC (by decide) rfl dX4_readsNot_72 ?_
  refine qi_aload_n hC 1 rfl rfl dX4_readsNot_74 ?_
  obtain ⟨q4, hq4, hf⟩ := Option.bind_eq_some_iff.mp hf
  refine qi_callVv hC (as := []) (c_X4_goesOn _ _ _ _ hq4) kl_X4_22 sh_6 kc_X4_goesOn rfl rfl (by omega) (by decide) (Nat.le_of_ble_eq_true rfl) dX4_readsNot_75 ?_
  refine qi_aload_n hC 1 rfl rfl dX4_readsNot_78 ?_
  refine qi_aload_n hC 2 rfl rfl dX4_readsNot_79 ?_
  refine qi_iload_n hC 3 rfl rfl dX4_readsNot_80 ?_
  obtain ⟨q5, hq5, hf⟩ := Option.bind_eq_some_iff.mp hf
  refine qi_callVi hC (as := [.ref (Y.2.2.1 1), .int v2]) (hR.2.2.2.1 _ _ _ hq5) kl_X4_50 sh_6 kc_X4_readsSum rfl rfl (by omega) (by decide) (Nat.le_of_ble_eq_true rfl) dX4_readsNot_81 ?_
  refine qi_istore_n hC rfl (by decide) rfl dX4_readsNot_84 ?_
  refine qi_aload_n hC 3 rfl rfl dX4_readsNot_85 ?_
  refine qi_iload hC 1 rfl dX4_readsNot_86 ?_
  refine qi_ineg hC dX4_readsNot_88 ?_
  obtain ⟨q6, hq6, hf⟩ := Option.bind_eq_some_iff.mp hf
  refine qi_callVv hC (as := [.int (-x3)]) (c_X5_adds _ _ _ _ _ hq6) kl_X4_44 sh_1 kc_X5_adds rfl rfl (by omega) (by decide) (Nat.le_of_ble_eq_true rfl) dX4_readsNot_89 ?_
  refine qi_iload_n hC 0 rfl rfl dX4_readsNot_92 ?_
  obtain ⟨h7, hf⟩ := qa_ck_e hf
  obtain rfl := Option.some.inj hf
  exact qi_iretz hC hQ hK (qa_bl_n h7) dX4_readsNot_93
set_option maxRecDepth 100000 in
set_option maxHeartbeats 4000000 in
theorem c_X4_readsNot (l : Launch) (Y : qaY) {rec : Nat → qaM → Int32 → Option (Int32 × qaM)} {dd : Nat} (hR : qaRec l Y rec dd) (m : qaM) (v2 : Int32) (q : Int32 × qaM) (hf : f_X4_readsNot rec m v2 = some q) : qaMi l Y yX4_readsNot cX4_readsNot 5 (some .boolean) (dd + 8) [.ref (Y.2.2.1 6), .ref (Y.2.2.1 1), .int v2] m q.2 q.1 := by
  refine qa_enti (by decide +kernel) (Nat.le_of_ble_eq_true rfl) fun X hC hQ => ?_
  have hK : qa_eq q q := rfl
  unfold f_X4_readsNot at hf
  refine qi_aload_n hC 0 rfl rfl dX4_readsNot_0 ?_
  refine qi_geti hC kf_X4_25 sh_6 rfl dX4_readsNot_1 ?_
  refine qi_sipush hC dX4_readsNot_4 kn_sipush_305 ?_
  refine qi_icmp_ne (tgt := 39) hC (by decide) dX4_readsNot_7 (fun h => ?_) (fun h => ?_)
  · replace hf := qa_if_f h hf
    refine qi_aload_n hC 0 rfl rfl dX4_readsNot_39 ?_
    refine qi_aload_n hC 1 rfl rfl dX4_readsNot_40 ?_
    refine qi_iload_n hC 2 rfl rfl dX4_readsNot_41 ?_
    obtain ⟨q1, hq1, hf⟩ := Option.bind_eq_some_iff.mp hf
    refine qi_callVi hC (as := [.ref (Y.2.2.1 1), .int v2]) (hR.2.2.2.1 _ _ _ hq1) kl_X4_50 sh_6 kc_X4_readsSum rfl rfl (by omega) (by decide) (Nat.le_of_ble_eq_true rfl) dX4_readsNot_42 ?_
    refine qi_istore_n hC rfl (by decide) rfl dX4_readsNot_45 ?_
    refine qi_iload_n hC 0 rfl rfl dX4_readsNot_46 ?_
    refine qi_if_eq (tgt := 92) hC (by decide) dX4_readsNot_47 (fun h => ?_) (fun h => ?_)
    · replace hf := qa_if_t h hf
      refine qi_iload_n hC 0 rfl rfl dX4_readsNot_92 ?_
      obtain ⟨h2, hf⟩ := qa_ck_e hf
      obtain rfl := Option.some.inj hf
      exact qi_iretz hC hQ hK (qa_bl_n h2) dX4_readsNot_93
    · replace hf := qa_if_f h hf
      refine qi_aload_n hC 1 rfl rfl dX4_readsNot_50 ?_
      refine qi_geti hC kf_X4_25 sh_6 rfl dX4_readsNot_51 ?_
      refine qi_bipush hC dX4_readsNot_54 kn_bipush_60 ?_
      refine qi_icmp_eq (tgt := 68) hC (by decide) dX4_readsNot_56 (fun h => ?_) (fun h => ?_)
      · replace hf := qa_if_t h hf
        refine qi_sub hC [1, 2, 3] rfl ?_
        exact t_X4_readsNot_68 hC hQ hR hf hK
      · replace hf := qa_if_f h hf
        refine qi_aload_n hC 1 rfl rfl dX4_readsNot_59 ?_
        refine qi_geti hC kf_X4_25 sh_6 rfl dX4_readsNot_60 ?_
        refine qi_bipush hC dX4_readsNot_63 kn_bipush_61 ?_
        refine qi_icmp_ne (tgt := 92) hC (by decide) dX4_readsNot_65 (fun h => ?_) (fun h => ?_)
        · replace hf := qa_if_f h hf
          refine qi_iload_n hC 0 rfl rfl dX4_readsNot_92 ?_
          obtain ⟨h8, hf⟩ := qa_ck_e hf
          obtain rfl := Option.some.inj hf
          exact qi_iretz hC hQ hK (qa_bl_n h8) dX4_readsNot_93
        · replace hf := qa_if_t h hf
          refine qi_sub hC [1, 2, 3] rfl ?_
          exact t_X4_readsNot_68 hC hQ hR hf hK
  · replace hf := qa_if_t h hf
    refine qi_iload_n hC 2 rfl rfl dX4_readsNot_10 ?_
    refine qi_iconst hC dX4_readsNot_11 kn_iconst_5 ?_
    refine qi_icmp_lt (tgt := 17) hC (by decide) dX4_readsNot_12 (fun h => ?_) (fun h => ?_)
    · replace hf := qa_if_t h hf
      refine qi_aload_n hC 0 rfl rfl dX4_readsNot_17 ?_
      obtain ⟨q9, hq9, hf⟩ := Option.bind_eq_some_iff.mp hf
      refine qi_callVv hC (as := []) (c_X4_goesOn _ _ _ _ hq9) kl_X4_22 sh_6 kc_X4_goesOn rfl rfl (by omega) (by decide) (Nat.le_of_ble_eq_true rfl) dX4_readsNot_18 ?_
      refine qi_aload_n hC 0 rfl rfl dX4_readsNot_21 ?_
      refine qi_aload_n hC 1 rfl rfl dX4_readsNot_22 ?_
      refine qi_iload_n hC 2 rfl rfl dX4_readsNot_23 ?_
      refine qi_iconst hC dX4_readsNot_24 kn_iconst_1 ?_
      refine qi_iadd hC dX4_readsNot_25 ?_
      obtain ⟨q10, hq10, hf⟩ := Option.bind_eq_some_iff.mp hf
      refine qi_callVi hC (as := [.ref (Y.2.2.1 1), .int (v2 + (1 : Int32))]) (hR.2.2.1 _ _ _ hq10) kl_X4_47 sh_6 kc_X4_readsNot rfl rfl (by omega) (by decide) (Nat.le_of_ble_eq_true rfl) dX4_readsNot_26 ?_
      refine qi_istore_n hC rfl (by decide) rfl dX4_readsNot_29 ?_
      refine qi_aload_n hC 2 rfl rfl dX4_readsNot_30 ?_
      refine qi_sipush hC dX4_readsNot_31 kn_sipush_m305 ?_
      obtain ⟨q11, hq11, hf⟩ := Option.bind_eq_some_iff.mp hf
      refine qi_callVv hC (as := [.int (-305 : Int32)]) (c_X5_adds _ _ _ _ _ hq11) kl_X4_44 sh_1 kc_X5_adds rfl rfl (by omega) (by decide) (Nat.le_of_ble_eq_true rfl) dX4_readsNot_34 ?_
      refine qi_iload_n hC 0 rfl rfl dX4_readsNot_37 ?_
      obtain ⟨h12, hf⟩ := qa_ck_e hf
      obtain rfl := Option.some.inj hf
      exact qi_iretz hC hQ hK (qa_bl_n h12) dX4_readsNot_38
    · replace hf := qa_if_f h hf
      refine qi_iconst hC dX4_readsNot_15 kn_iconst_0 ?_
      obtain rfl := Option.some.inj hf
      exact qi_iretz hC hQ hK rfl dX4_readsNot_16
set_option maxRecDepth 100000 in
set_option maxHeartbeats 4000000 in
theorem t_X4_readsBoth_10 {X : qaX} {l : Launch} {Y : qaY} {rec : Nat → qaM → Int32 → Option (Int32 × qaM)} {dd : Nat} {fin : Int32 × qaM} (hC : QC X l Y cX4_readsBoth RX4 5 (dd + 8)) (hQ : QRi X Y (some .boolean) fin.2 fin.1) (hR : qaRec l Y rec dd) {m : qaM} {v2 : Int32} {v3 : Int32} {v4 : Int32} {z : ((qaM × Int32 × Int32) ⊕ (Int32 × qaM))} (hf : b_X4_readsBoth_10 rec m v2 v3 v4 = some z) (hK : (qa_K (fun s => QG X Y 5 s.1 10 [(0, .ref (Y.2.2.1 6)), (1, .ref (Y.2.2.1 1)), (2, .int v2), (3, .int s.2.1), (4, .int s.2.2)] []) (qa_eq fin)) z) : QG X Y 5 m 10 [(0, .ref (Y.2.2.1 6)), (1, .ref (Y.2.2.1 1)), (2, .int v2), (3, .int v3), (4, .int v4)] [] := by
  unfold b_X4_readsBoth_10 at hf
  refine qi_iload hC 4 rfl dX4_readsBoth_10 ?_
  refine qi_sipush hC dX4_readsBoth_12 kn_sipush_160 ?_
  refine qi_icmp_ge (tgt := 56) hC (by decide) dX4_readsBoth_15 (fun h => ?_) (fun h => ?_)
  · replace hf := qa_if_t h hf
    refine qi_iload_n hC 3 rfl rfl dX4_readsBoth_56 ?_
    obtain ⟨h2, hf⟩ := qa_ck_e hf
    obtain ⟨z, rfl, hg⟩ := qa_inr_e hf; have hf := hg
    obtain rfl := Option.some.inj hf
    exact qi_iretz hC hQ hK (qa_bl_n h2) dX4_readsBoth_57
  · replace hf := qa_if_f h hf
    refine qi_iload_n hC 3 rfl rfl dX4_readsBoth_18 ?_
    refine qi_if_eq (tgt := 56) hC (by decide) dX4_readsBoth_19 (fun h => ?_) (fun h => ?_)
    · replace hf := qa_if_t h hf
      refine qi_iload_n hC 3 rfl rfl dX4_readsBoth_56 ?_
      obtain ⟨h3, hf⟩ := qa_ck_e hf
      obtain ⟨z, rfl, hg⟩ := qa_inr_e hf; have hf := hg
      obtain rfl := Option.some.inj hf
      exact qi_iretz hC hQ hK (qa_bl_n h3) dX4_readsBoth_57
    · replace hf := qa_if_f h hf
      refine qi_aload_n hC 0 rfl rfl dX4_readsBoth_22 ?_
      refine qi_geti hC kf_X4_25 sh_6 rfl dX4_readsBoth_23 ?_
      refine qi_sipush hC dX4_readsBoth_26 kn_sipush_304 ?_
      refine qi_icmp_ne (tgt := 56) hC (by decide) dX4_readsBoth_29 (fun h => ?_) (fun h => ?_)
      · replace hf := qa_if_f h hf
        refine qi_iload_n hC 3 rfl rfl dX4_readsBoth_56 ?_
        obtain ⟨h4, hf⟩ := qa_ck_e hf
        obtain ⟨z, rfl, hg⟩ := qa_inr_e hf; have hf := hg
        obtain rfl := Option.some.inj hf
        exact qi_iretz hC hQ hK (qa_bl_n h4) dX4_readsBoth_57
      · replace hf := qa_if_t h hf
        refine qi_aload_n hC 0 rfl rfl dX4_readsBoth_32 ?_
        obtain ⟨q5, hq5, hf⟩ := Option.bind_eq_some_iff.mp hf
        refine qi_callVv hC (as := []) (c_X4_goesOn _ _ _ _ hq5) kl_X4_22 sh_6 kc_X4_goesOn rfl rfl (by omega) (by decide) (Nat.le_of_ble_eq_true rfl) dX4_readsBoth_33 ?_
        refine qi_aload_n hC 0 rfl rfl dX4_readsBoth_36 ?_
        refine qi_aload_n hC 1 rfl rfl dX4_readsBoth_37 ?_
        refine qi_iload_n hC 2 rfl rfl dX4_readsBoth_38 ?_
        obtain ⟨q6, hq6, hf⟩ := Option.bind_eq_some_iff.mp hf
        refine qi_callVi hC (as := [.ref (Y.2.2.1 1), .int v2]) (hR.2.2.1 _ _ _ hq6) kl_X4_47 sh_6 kc_X4_readsNot rfl rfl (by omega) (by decide) (Nat.le_of_ble_eq_true rfl) dX4_readsBoth_39 ?_
        refine qi_istore_n hC rfl (by decide) rfl dX4_readsBoth_42 ?_
        refine qi_aload_n hC 2 rfl rfl dX4_readsBoth_43 ?_
        refine qi_sipush hC dX4_readsBoth_44 kn_sipush_m304 ?_
        obtain ⟨q7, hq7, hf⟩ := Option.bind_eq_some_iff.mp hf
        refine qi_callVv hC (as := [.int (-304 : Int32)]) (c_X5_adds _ _ _ _ _ hq7) kl_X4_44 sh_1 kc_X5_adds rfl rfl (by omega) (by decide) (Nat.le_of_ble_eq_true rfl) dX4_readsBoth_47 ?_
        obtain ⟨x8, ex8, hf⟩ := qa_lt_e hf
        refine qi_iinc hC (n := 1) (v := x8) 4 rfl ((congrArg (fun q => v4 + q) kn_iconst_1).trans ex8.symm) (by decide) rfl dX4_readsBoth_50 ?_
        refine qi_goto (tgt := 10) hC (by decide) dX4_readsBoth_53 ?_
        obtain rfl := Option.some.inj hf
        refine qi_sub hC [2, 3, 4, 1, 0] rfl ?_
        exact hK
set_option maxRecDepth 100000 in
set_option maxHeartbeats 4000000 in
theorem tn_X4_readsBoth_10 {X : qaX} {l : Launch} {Y : qaY} {rec : Nat → qaM → Int32 → Option (Int32 × qaM)} {dd : Nat} {fin : Int32 × qaM} (hC : QC X l Y cX4_readsBoth RX4 5 (dd + 8)) (hQ : QRi X Y (some .boolean) fin.2 fin.1) (hR : qaRec l Y rec dd) {v2 : Int32} {z : (Int32 × qaM)} (hK : (qa_eq fin) z) : ∀ (n : Nat) (s : qaM × Int32 × Int32), qa_lp (fun s => b_X4_readsBoth_10 rec s.1 v2 s.2.1 s.2.2) n s = some z → QG X Y 5 s.1 10 [(0, .ref (Y.2.2.1 6)), (1, .ref (Y.2.2.1 1)), (2, .int v2), (3, .int s.2.1), (4, .int s.2.2)] [] := by
  intro n
  induction n with
  | zero => intro s hf; cases hf
  | succ n ih =>
    intro s hf
    obtain ⟨y, hy, hf⟩ := qa_lp_e hf
    refine t_X4_readsBoth_10 hC hQ hR hy ?_
    rcases hf with ⟨s', rfl, hf⟩ | rfl
    · exact ih s' hf
    · exact hK
set_option maxRecDepth 100000 in
set_option maxHeartbeats 4000000 in
theorem tl_X4_readsBoth_10 {X : qaX} {l : Launch} {Y : qaY} {rec : Nat → qaM → Int32 → Option (Int32 × qaM)} {dd : Nat} {fin : Int32 × qaM} (hC : QC X l Y cX4_readsBoth RX4 5 (dd + 8)) (hQ : QRi X Y (some .boolean) fin.2 fin.1) (hR : qaRec l Y rec dd) {m : qaM} {v2 : Int32} {v3 : Int32} {v4 : Int32} {z : (Int32 × qaM)} (hf : lp_X4_readsBoth_10 rec m v2 v3 v4 = some z) (hK : (qa_eq fin) z) : QG X Y 5 m 10 [(0, .ref (Y.2.2.1 6)), (1, .ref (Y.2.2.1 1)), (2, .int v2), (3, .int v3), (4, .int v4)] [] :=
  tn_X4_readsBoth_10 hC hQ hR hK qa_F (m, v3, v4) hf
set_option maxRecDepth 100000 in
set_option maxHeartbeats 4000000 in
theorem c_X4_readsBoth (l : Launch) (Y : qaY) {rec : Nat → qaM → Int32 → Option (Int32 × qaM)} {dd : Nat} (hR : qaRec l Y rec dd) (m : qaM) (v2 : Int32) (q : Int32 × qaM) (hf : f_X4_readsBoth rec m v2 = some q) : qaMi l Y yX4_readsBoth cX4_readsBoth 5 (some .boolean) (dd + 8) [.ref (Y.2.2.1 6), .ref (Y.2.2.1 1), .int v2] m q.2 q.1 := by
  refine qa_enti (by decide +kernel) (Nat.le_of_ble_eq_true rfl) fun X hC hQ => ?_
  have hK : qa_eq q q := rfl
  unfold f_X4_readsBoth at hf
  refine qi_aload_n hC 0 rfl rfl dX4_readsBoth_0 ?_
  refine qi_aload_n hC 1 rfl rfl dX4_readsBoth_1 ?_
  refine qi_iload_n hC 2 rfl rfl dX4_readsBoth_2 ?_
  obtain ⟨q1, hq1, hf⟩ := Option.bind_eq_some_iff.mp hf
  refine qi_callVi hC (as := [.ref (Y.2.2.1 1), .int v2]) (hR.2.2.1 _ _ _ hq1) kl_X4_47 sh_6 kc_X4_readsNot rfl rfl (by omega) (by decide) (Nat.le_of_ble_eq_true rfl) dX4_readsBoth_3 ?_
  refine qi_istore_n hC rfl (by decide) rfl dX4_readsBoth_6 ?_
  refine qi_iconst hC dX4_readsBoth_7 kn_iconst_0 ?_
  refine qi_istore hC (by decide) rfl dX4_readsBoth_8 ?_
  refine qi_sub hC [2, 3, 4, 1, 0] rfl ?_
  exact tl_X4_readsBoth_10 hC hQ hR hf hK
set_option maxRecDepth 100000 in
set_option maxHeartbeats 4000000 in
theorem t_X4_readsEither_10 {X : qaX} {l : Launch} {Y : qaY} {rec : Nat → qaM → Int32 → Option (Int32 × qaM)} {dd : Nat} {fin : Int32 × qaM} (hC : QC X l Y cX4_readsEither RX4 5 (dd + 8)) (hQ : QRi X Y (some .boolean) fin.2 fin.1) (hR : qaRec l Y rec dd) {m : qaM} {v2 : Int32} {v3 : Int32} {v4 : Int32} {z : ((qaM × Int32 × Int32) ⊕ (Int32 × qaM))} (hf : b_X4_readsEither_10 rec m v2 v3 v4 = some z) (hK : (qa_K (fun s => QG X Y 5 s.1 10 [(0, .ref (Y.2.2.1 6)), (1, .ref (Y.2.2.1 1)), (2, .int v2), (3, .int s.2.1), (4, .int s.2.2)] []) (qa_eq fin)) z) : QG X Y 5 m 10 [(0, .ref (Y.2.2.1 6)), (1, .ref (Y.2.2.1 1)), (2, .int v2), (3, .int v3), (4, .int v4)] [] := by
  unfold b_X4_readsEither_10 at hf
  refine qi_iload hC 4 rfl dX4_readsEither_10 ?_
  refine qi_sipush hC dX4_readsEither_12 kn_sipush_160 ?_
  refine qi_icmp_ge (tgt := 56) hC (by decide) dX4_readsEither_15 (fun h => ?_) (fun h => ?_)
  · replace hf := qa_if_t h hf
    refine qi_iload_n hC 3 rfl rfl dX4_readsEither_56 ?_
    obtain ⟨h2, hf⟩ := qa_ck_e hf
    obtain ⟨z, rfl, hg⟩ := qa_inr_e hf; have hf := hg
    obtain rfl := Option.some.inj hf
    exact qi_iretz hC hQ hK (qa_bl_n h2) dX4_readsEither_57
  · replace hf := qa_if_f h hf
    refine qi_iload_n hC 3 rfl rfl dX4_readsEither_18 ?_
    refine qi_if_eq (tgt := 56) hC (by decide) dX4_readsEither_19 (fun h => ?_) (fun h => ?_)
    · replace hf := qa_if_t h hf
      refine qi_iload_n hC 3 rfl rfl dX4_readsEither_56 ?_
      obtain ⟨h3, hf⟩ := qa_ck_e hf
      obtain ⟨z, rfl, hg⟩ := qa_inr_e hf; have hf := hg
      obtain rfl := Option.some.inj hf
      exact qi_iretz hC hQ hK (qa_bl_n h3) dX4_readsEither_57
    · replace hf := qa_if_f h hf
      refine qi_aload_n hC 0 rfl rfl dX4_readsEither_22 ?_
      refine qi_geti hC kf_X4_25 sh_6 rfl dX4_readsEither_23 ?_
      refine qi_sipush hC dX4_readsEither_26 kn_sipush_303 ?_
      refine qi_icmp_ne (tgt := 56) hC (by decide) dX4_readsEither_29 (fun h => ?_) (fun h => ?_)
      · replace hf := qa_if_f h hf
        refine qi_iload_n hC 3 rfl rfl dX4_readsEither_56 ?_
        obtain ⟨h4, hf⟩ := qa_ck_e hf
        obtain ⟨z, rfl, hg⟩ := qa_inr_e hf; have hf := hg
        obtain rfl := Option.some.inj hf
        exact qi_iretz hC hQ hK (qa_bl_n h4) dX4_readsEither_57
      · replace hf := qa_if_t h hf
        refine qi_aload_n hC 0 rfl rfl dX4_readsEither_32 ?_
        obtain ⟨q5, hq5, hf⟩ := Option.bind_eq_some_iff.mp hf
        refine qi_callVv hC (as := []) (c_X4_goesOn _ _ _ _ hq5) kl_X4_22 sh_6 kc_X4_goesOn rfl rfl (by omega) (by decide) (Nat.le_of_ble_eq_true rfl) dX4_readsEither_33 ?_
        refine qi_aload_n hC 0 rfl rfl dX4_readsEither_36 ?_
        refine qi_aload_n hC 1 rfl rfl dX4_readsEither_37 ?_
        refine qi_iload_n hC 2 rfl rfl dX4_readsEither_38 ?_
        obtain ⟨q6, hq6, hf⟩ := Option.bind_eq_some_iff.mp hf
        refine qi_callVi hC (as := [.ref (Y.2.2.1 1), .int v2]) (hR.2.1 _ _ _ hq6) kl_X4_41 sh_6 kc_X4_readsBoth rfl rfl (by omega) (by decide) (Nat.le_of_ble_eq_true rfl) dX4_readsEither_39 ?_
        refine qi_istore_n hC rfl (by decide) rfl dX4_readsEither_42 ?_
        refine qi_aload_n hC 2 rfl rfl dX4_readsEither_43 ?_
        refine qi_sipush hC dX4_readsEither_44 kn_sipush_m303 ?_
        obtain ⟨q7, hq7, hf⟩ := Option.bind_eq_some_iff.mp hf
        refine qi_callVv hC (as := [.int (-303 : Int32)]) (c_X5_adds _ _ _ _ _ hq7) kl_X4_44 sh_1 kc_X5_adds rfl rfl (by omega) (by decide) (Nat.le_of_ble_eq_true rfl) dX4_readsEither_47 ?_
        obtain ⟨x8, ex8, hf⟩ := qa_lt_e hf
        refine qi_iinc hC (n := 1) (v := x8) 4 rfl ((congrArg (fun q => v4 + q) kn_iconst_1).trans ex8.symm) (by decide) rfl dX4_readsEither_50 ?_
        refine qi_goto (tgt := 10) hC (by decide) dX4_readsEither_53 ?_
        obtain rfl := Option.some.inj hf
        refine qi_sub hC [2, 3, 4, 1, 0] rfl ?_
        exact hK
set_option maxRecDepth 100000 in
set_option maxHeartbeats 4000000 in
theorem tn_X4_readsEither_10 {X : qaX} {l : Launch} {Y : qaY} {rec : Nat → qaM → Int32 → Option (Int32 × qaM)} {dd : Nat} {fin : Int32 × qaM} (hC : QC X l Y cX4_readsEither RX4 5 (dd + 8)) (hQ : QRi X Y (some .boolean) fin.2 fin.1) (hR : qaRec l Y rec dd) {v2 : Int32} {z : (Int32 × qaM)} (hK : (qa_eq fin) z) : ∀ (n : Nat) (s : qaM × Int32 × Int32), qa_lp (fun s => b_X4_readsEither_10 rec s.1 v2 s.2.1 s.2.2) n s = some z → QG X Y 5 s.1 10 [(0, .ref (Y.2.2.1 6)), (1, .ref (Y.2.2.1 1)), (2, .int v2), (3, .int s.2.1), (4, .int s.2.2)] [] := by
  intro n
  induction n with
  | zero => intro s hf; cases hf
  | succ n ih =>
    intro s hf
    obtain ⟨y, hy, hf⟩ := qa_lp_e hf
    refine t_X4_readsEither_10 hC hQ hR hy ?_
    rcases hf with ⟨s', rfl, hf⟩ | rfl
    · exact ih s' hf
    · exact hK
set_option maxRecDepth 100000 in
set_option maxHeartbeats 4000000 in
theorem tl_X4_readsEither_10 {X : qaX} {l : Launch} {Y : qaY} {rec : Nat → qaM → Int32 → Option (Int32 × qaM)} {dd : Nat} {fin : Int32 × qaM} (hC : QC X l Y cX4_readsEither RX4 5 (dd + 8)) (hQ : QRi X Y (some .boolean) fin.2 fin.1) (hR : qaRec l Y rec dd) {m : qaM} {v2 : Int32} {v3 : Int32} {v4 : Int32} {z : (Int32 × qaM)} (hf : lp_X4_readsEither_10 rec m v2 v3 v4 = some z) (hK : (qa_eq fin) z) : QG X Y 5 m 10 [(0, .ref (Y.2.2.1 6)), (1, .ref (Y.2.2.1 1)), (2, .int v2), (3, .int v3), (4, .int v4)] [] :=
  tn_X4_readsEither_10 hC hQ hR hK qa_F (m, v3, v4) hf
set_option maxRecDepth 100000 in
set_option maxHeartbeats 4000000 in
theorem c_X4_readsEither (l : Launch) (Y : qaY) {rec : Nat → qaM → Int32 → Option (Int32 × qaM)} {dd : Nat} (hR : qaRec l Y rec dd) (m : qaM) (v2 : Int32) (q : Int32 × qaM) (hf : f_X4_readsEither rec m v2 = some q) : qaMi l Y yX4_readsEither cX4_readsEither 5 (some .boolean) (dd + 8) [.ref (Y.2.2.1 6), .ref (Y.2.2.1 1), .int v2] m q.2 q.1 := by
  refine qa_enti (by decide +kernel) (Nat.le_of_ble_eq_true rfl) fun X hC hQ => ?_
  have hK : qa_eq q q := rfl
  unfold f_X4_readsEither at hf
  refine qi_aload_n hC 0 rfl rfl dX4_readsEither_0 ?_
  refine qi_aload_n hC 1 rfl rfl dX4_readsEither_1 ?_
  refine qi_iload_n hC 2 rfl rfl dX4_readsEither_2 ?_
  obtain ⟨q1, hq1, hf⟩ := Option.bind_eq_some_iff.mp hf
  refine qi_callVi hC (as := [.ref (Y.2.2.1 1), .int v2]) (hR.2.1 _ _ _ hq1) kl_X4_41 sh_6 kc_X4_readsBoth rfl rfl (by omega) (by decide) (Nat.le_of_ble_eq_true rfl) dX4_readsEither_3 ?_
  refine qi_istore_n hC rfl (by decide) rfl dX4_readsEither_6 ?_
  refine qi_iconst hC dX4_readsEither_7 kn_iconst_0 ?_
  refine qi_istore hC (by decide) rfl dX4_readsEither_8 ?_
  refine qi_sub hC [2, 3, 4, 1, 0] rfl ?_
  exact tl_X4_readsEither_10 hC hQ hR hf hK
set_option maxRecDepth 100000 in
set_option maxHeartbeats 4000000 in
theorem c_RD (l : Launch) (Y : qaY) : ∀ d : Nat, qaRec l Y (f_RD d) d := by
  intro d
  induction d with
  | zero =>
    unfold qaRec
    refine ⟨?_, ?_, ?_, ?_, ?_, ?_⟩ <;> (intro m o q h; cases h)
  | succ d ih =>
    have e : d + 1 + 7 = d + 8 := by omega
    unfold qaRec
    rw [e]
    exact ⟨fun m o q h => c_X4_readsEither l Y ih m o q h, fun m o q h => c_X4_readsBoth l Y ih m o q h, fun m o q h => c_X4_readsNot l Y ih m o q h, fun m o q h => c_X4_readsSum l Y ih m o q h, fun m o q h => c_X4_readsTerm l Y ih m o q h, fun m o q h => c_X4_readsOne l Y ih m o q h⟩
theorem c_RD0 (l : Launch) (Y : qaY) (d : Nat) (m : qaM) (o : Int32) (q : Int32 × qaM) (hf : f_RD d 0 m o = some q) : qaMi l Y yX4_readsEither cX4_readsEither 5 (some .boolean) (d + 7) [.ref (Y.2.2.1 6), .ref (Y.2.2.1 1), .int o] m q.2 q.1 := (c_RD l Y d).1 m o q hf
theorem c_RD1 (l : Launch) (Y : qaY) (d : Nat) (m : qaM) (o : Int32) (q : Int32 × qaM) (hf : f_RD d 1 m o = some q) : qaMi l Y yX4_readsBoth cX4_readsBoth 5 (some .boolean) (d + 7) [.ref (Y.2.2.1 6), .ref (Y.2.2.1 1), .int o] m q.2 q.1 := (c_RD l Y d).2.1 m o q hf
theorem c_RD2 (l : Launch) (Y : qaY) (d : Nat) (m : qaM) (o : Int32) (q : Int32 × qaM) (hf : f_RD d 2 m o = some q) : qaMi l Y yX4_readsNot cX4_readsNot 5 (some .boolean) (d + 7) [.ref (Y.2.2.1 6), .ref (Y.2.2.1 1), .int o] m q.2 q.1 := (c_RD l Y d).2.2.1 m o q hf
theorem c_RD3 (l : Launch) (Y : qaY) (d : Nat) (m : qaM) (o : Int32) (q : Int32 × qaM) (hf : f_RD d 3 m o = some q) : qaMi l Y yX4_readsSum cX4_readsSum 6 (some .boolean) (d + 7) [.ref (Y.2.2.1 6), .ref (Y.2.2.1 1), .int o] m q.2 q.1 := (c_RD l Y d).2.2.2.1 m o q hf
theorem c_RD4 (l : Launch) (Y : qaY) (d : Nat) (m : qaM) (o : Int32) (q : Int32 × qaM) (hf : f_RD d 4 m o = some q) : qaMi l Y yX4_readsTerm cX4_readsTerm 5 (some .boolean) (d + 7) [.ref (Y.2.2.1 6), .ref (Y.2.2.1 1), .int o] m q.2 q.1 := (c_RD l Y d).2.2.2.2.1 m o q hf
theorem c_RD5 (l : Launch) (Y : qaY) (d : Nat) (m : qaM) (o : Int32) (q : Int32 × qaM) (hf : f_RD d 5 m o = some q) : qaMi l Y yX4_readsOne cX4_readsOne 4 (some .boolean) (d + 7) [.ref (Y.2.2.1 6), .ref (Y.2.2.1 1), .int o] m q.2 q.1 := (c_RD l Y d).2.2.2.2.2 m o q hf
set_option maxRecDepth 100000 in
set_option maxHeartbeats 4000000 in
theorem t_X4_readsInto_75 {X : qaX} {l : Launch} {Y : qaY} {fin : Int32 × qaM} (hC : QC X l Y cX4_readsInto RX4 3 69) (hQ : QRi X Y (some .int) fin.2 fin.1) {m : qaM} {z : (Int32 × qaM)} (hf : b_X4_readsInto_75 m = some z) (hK : (qa_eq fin) z) : QG X Y 3 m 75 [(0, .ref (Y.2.2.1 6))] [] := by
  unfold b_X4_readsInto_75 at hf
  refine qi_aload_n hC 0 rfl rfl dX4_readsInto_75 ?_
  refine qi_geti hC kf_X4_25 sh_6 rfl dX4_readsInto_76 ?_
  refine qi_if_ne (tgt := 86) hC (by decide) dX4_readsInto_79 (fun h => ?_) (fun h => ?_)
  · replace hf := qa_if_f h hf
    refine qi_aload_n hC 0 rfl rfl dX4_readsInto_86 ?_
    refine qi_geti hC kf_X4_28 sh_6 rfl dX4_readsInto_87 ?_
    obtain rfl := Option.some.inj hf
    exact qi_ireti hC hQ hK dX4_readsInto_90
  · replace hf := qa_if_t h hf
    refine qi_iconst hC dX4_readsInto_82 kn_iconst_m1 ?_
    refine qi_goto (tgt := 90) hC (by decide) dX4_readsInto_83 ?_
    obtain rfl := Option.some.inj hf
    exact qi_ireti hC hQ hK dX4_readsInto_90
set_option maxRecDepth 100000 in
set_option maxHeartbeats 4000000 in
theorem t_X4_readsInto_11 {X : qaX} {l : Launch} {Y : qaY} {fin : Int32 × qaM} (hC : QC X l Y cX4_readsInto RX4 3 69) (hQ : QRi X Y (some .int) fin.2 fin.1) {m : qaM} {v2 : Int32} {z : ((qaM × Int32) ⊕ (Int32 × qaM))} (hf : b_X4_readsInto_11 m v2 = some z) (hK : (qa_K (fun s => QG X Y 3 s.1 11 [(0, .ref (Y.2.2.1 6)), (1, .ref (Y.2.2.1 1)), (2, .int s.2)] []) (qa_eq fin)) z) : QG X Y 3 m 11 [(0, .ref (Y.2.2.1 6)), (1, .ref (Y.2.2.1 1)), (2, .int v2)] [] := by
  unfold b_X4_readsInto_11 at hf
  refine qi_iload_n hC 2 rfl rfl dX4_readsInto_11 ?_
  refine qi_iconst hC dX4_readsInto_12 kn_iconst_3 ?_
  refine qi_icmp_ge (tgt := 75) hC (by decide) dX4_readsInto_13 (fun h => ?_) (fun h => ?_)
  · replace hf := qa_if_t h hf
    obtain ⟨z, rfl, hg⟩ := qa_inr_e hf; have hf := hg
    refine qi_sub hC [0] rfl ?_
    exact t_X4_readsInto_75 hC hQ hf hK
  · replace hf := qa_if_f h hf
    refine qi_aload_n hC 0 rfl rfl dX4_readsInto_16 ?_
    refine qi_geti hC kf_X4_25 sh_6 rfl dX4_readsInto_17 ?_
    refine qi_sipush hC dX4_readsInto_20 kn_sipush_300 ?_
    refine qi_iload_n hC 2 rfl rfl dX4_readsInto_23 ?_
    refine qi_iadd hC dX4_readsInto_24 ?_
    refine qi_icmp_eq (tgt := 33) hC (by decide) dX4_readsInto_25 (fun h => ?_) (fun h => ?_)
    · replace hf := qa_if_t h hf
      refine qi_aload_n hC 0 rfl rfl dX4_readsInto_33 ?_
      obtain ⟨q3, hq3, hf⟩ := Option.bind_eq_some_iff.mp hf
      refine qi_callVv hC (as := []) (c_X4_goesOn _ _ _ _ hq3) kl_X4_22 sh_6 kc_X4_goesOn rfl rfl (by decide) (by decide) (Nat.le_of_ble_eq_true rfl) dX4_readsInto_34 ?_
      refine qi_aload_n hC 0 rfl rfl dX4_readsInto_37 ?_
      refine qi_aload_n hC 1 rfl rfl dX4_readsInto_38 ?_
      refine qi_iconst hC dX4_readsInto_39 kn_iconst_0 ?_
      obtain ⟨q4, hq4, hf⟩ := Option.bind_eq_some_iff.mp hf
      refine qi_callVi hC (as := [.ref (Y.2.2.1 1), .int (0 : Int32)]) (c_RD0 _ _ 60 _ _ _ hq4) kl_X4_31 sh_6 kc_X4_readsEither rfl rfl (by decide) (by decide) (Nat.le_of_ble_eq_true rfl) dX4_readsInto_40 ?_
      refine qi_if_eq (tgt := 55) hC (by decide) dX4_readsInto_43 (fun h => ?_) (fun h => ?_)
      · replace hf := qa_if_t h hf
        refine qi_aload_n hC 0 rfl rfl dX4_readsInto_55 ?_
        refine qi_geti hC kf_X4_28 sh_6 rfl dX4_readsInto_56 ?_
        obtain ⟨z, rfl, hg⟩ := qa_inr_e hf; have hf := hg
        obtain rfl := Option.some.inj hf
        exact qi_ireti hC hQ hK dX4_readsInto_59
      · replace hf := qa_if_f h hf
        refine qi_aload_n hC 0 rfl rfl dX4_readsInto_46 ?_
        refine qi_geti hC kf_X4_25 sh_6 rfl dX4_readsInto_47 ?_
        refine qi_bipush hC dX4_readsInto_50 kn_bipush_59 ?_
        refine qi_icmp_eq (tgt := 60) hC (by decide) dX4_readsInto_52 (fun h => ?_) (fun h => ?_)
        · replace hf := qa_if_t h hf
          refine qi_aload_n hC 0 rfl rfl dX4_readsInto_60 ?_
          obtain ⟨q5, hq5, hf⟩ := Option.bind_eq_some_iff.mp hf
          refine qi_callVv hC (as := []) (c_X4_goesOn _ _ _ _ hq5) kl_X4_22 sh_6 kc_X4_goesOn rfl rfl (by decide) (by decide) (Nat.le_of_ble_eq_true rfl) dX4_readsInto_61 ?_
          refine qi_aload_n hC 1 rfl rfl dX4_readsInto_64 ?_
          refine qi_iload_n hC 2 rfl rfl dX4_readsInto_65 ?_
          obtain ⟨q6, hq6, hf⟩ := Option.bind_eq_some_iff.mp hf
          refine qi_callVv hC (as := [.int v2]) (c_X5_endsPart _ _ _ _ _ hq6) kl_X4_35 sh_1 kc_X5_endsPart rfl rfl (by decide) (by decide) (Nat.le_of_ble_eq_true rfl) dX4_readsInto_66 ?_
          obtain ⟨x7, ex7, hf⟩ := qa_lt_e hf
          refine qi_iinc hC (n := 1) (v := x7) 2 rfl ((congrArg (fun q => v2 + q) kn_iconst_1).trans ex7.symm) (by decide) rfl dX4_readsInto_69 ?_
          refine qi_goto (tgt := 11) hC (by decide) dX4_readsInto_72 ?_
          obtain rfl := Option.some.inj hf
          refine qi_sub hC [1, 2, 0] rfl ?_
          exact hK
        · replace hf := qa_if_f h hf
          refine qi_aload_n hC 0 rfl rfl dX4_readsInto_55 ?_
          refine qi_geti hC kf_X4_28 sh_6 rfl dX4_readsInto_56 ?_
          obtain ⟨z, rfl, hg⟩ := qa_inr_e hf; have hf := hg
          obtain rfl := Option.some.inj hf
          exact qi_ireti hC hQ hK dX4_readsInto_59
    · replace hf := qa_if_f h hf
      refine qi_aload_n hC 0 rfl rfl dX4_readsInto_28 ?_
      refine qi_geti hC kf_X4_28 sh_6 rfl dX4_readsInto_29 ?_
      obtain ⟨z, rfl, hg⟩ := qa_inr_e hf; have hf := hg
      obtain rfl := Option.some.inj hf
      exact qi_ireti hC hQ hK dX4_readsInto_32
set_option maxRecDepth 100000 in
set_option maxHeartbeats 4000000 in
theorem tn_X4_readsInto_11 {X : qaX} {l : Launch} {Y : qaY} {fin : Int32 × qaM} (hC : QC X l Y cX4_readsInto RX4 3 69) (hQ : QRi X Y (some .int) fin.2 fin.1) {z : (Int32 × qaM)} (hK : (qa_eq fin) z) : ∀ (n : Nat) (s : qaM × Int32), qa_lp (fun s => b_X4_readsInto_11 s.1 s.2) n s = some z → QG X Y 3 s.1 11 [(0, .ref (Y.2.2.1 6)), (1, .ref (Y.2.2.1 1)), (2, .int s.2)] [] := by
  intro n
  induction n with
  | zero => intro s hf; cases hf
  | succ n ih =>
    intro s hf
    obtain ⟨y, hy, hf⟩ := qa_lp_e hf
    refine t_X4_readsInto_11 hC hQ hy ?_
    rcases hf with ⟨s', rfl, hf⟩ | rfl
    · exact ih s' hf
    · exact hK
set_option maxRecDepth 100000 in
set_option maxHeartbeats 4000000 in
theorem tl_X4_readsInto_11 {X : qaX} {l : Launch} {Y : qaY} {fin : Int32 × qaM} (hC : QC X l Y cX4_readsInto RX4 3 69) (hQ : QRi X Y (some .int) fin.2 fin.1) {m : qaM} {v2 : Int32} {z : (Int32 × qaM)} (hf : lp_X4_readsInto_11 m v2 = some z) (hK : (qa_eq fin) z) : QG X Y 3 m 11 [(0, .ref (Y.2.2.1 6)), (1, .ref (Y.2.2.1 1)), (2, .int v2)] [] :=
  tn_X4_readsInto_11 hC hQ hK qa_F (m, v2) hf
set_option maxRecDepth 100000 in
set_option maxHeartbeats 4000000 in
theorem c_X4_readsInto (l : Launch) (Y : qaY) (m : qaM) (q : Int32 × qaM) (hf : f_X4_readsInto m = some q) : qaMi l Y yX4_readsInto cX4_readsInto 3 (some .int) 69 [.ref (Y.2.2.1 6), .ref (Y.2.2.1 1)] m q.2 q.1 := by
  refine qa_enti (by decide +kernel) (Nat.le_of_ble_eq_true rfl) fun X hC hQ => ?_
  have hK : qa_eq q q := rfl
  unfold f_X4_readsInto at hf
  refine qi_aload_n hC 0 rfl rfl dX4_readsInto_0 ?_
  refine qi_iconst hC dX4_readsInto_1 kn_iconst_0 ?_
  obtain ⟨m1, em1, hf⟩ := qa_lt_e hf
  refine qi_puti hC em1 kp_X4_19 sh_6 rfl rfl rfl dX4_readsInto_2 ?_
  refine qi_aload_n hC 0 rfl rfl dX4_readsInto_5 ?_
  obtain ⟨q2, hq2, hf⟩ := Option.bind_eq_some_iff.mp hf
  refine qi_callVv hC (as := []) (c_X4_goesOn _ _ _ _ hq2) kl_X4_22 sh_6 kc_X4_goesOn rfl rfl (by decide) (by decide) (Nat.le_of_ble_eq_true rfl) dX4_readsInto_6 ?_
  refine qi_iconst hC dX4_readsInto_9 kn_iconst_0 ?_
  refine qi_istore_n hC rfl (by decide) rfl dX4_readsInto_10 ?_
  refine qi_sub hC [1, 2, 0] rfl ?_
  exact tl_X4_readsInto_11 hC hQ hf hK
