/-! THE MACHINE DOES WHAT THE FUNCTIONS SAY, laid by program -/
set_option maxRecDepth 100000 in
set_option maxHeartbeats 4000000 in
theorem t_X0_laysDown_72 {X : qaX} {l : Launch} {Y : qaY} {fin : qaM} {i0 : Nat} (hC : QC X l Y cX0_laysDown RX0 4 2) (hQ : QRv X Y fin) (hi0 : qaHou i0) {m : qaM} {v1 : Int32} {v2 : Int32} {z : (qaM)} (hf : b_X0_laysDown_72 i0 m v1 v2 = some z) (hK : (qa_eq fin) z) : QG X Y 4 m 72 [(0, .ref (Y.2.2.1 i0)), (1, .int v1), (2, .int v2)] [] := by
  unfold b_X0_laysDown_72 at hf
  refine qi_aload_n hC 0 rfl rfl dX0_laysDown_72 ?_
  refine qi_getr hC kf_X0_21 hi0.1 rfl dX0_laysDown_73 ?_
  refine qi_iload_n hC 2 rfl rfl dX0_laysDown_76 ?_
  refine qi_iload_n hC 1 rfl rfl dX0_laysDown_77 ?_
  obtain ⟨q1, hq1, hf⟩ := Option.bind_eq_some_iff.mp hf
  refine qi_callVv hC (as := [.int v2, .int v1]) (c_X2_insertsAt _ _ hi0.2.2.1 _ _ _ _ hq1) kl_X0_87 hi0.2.2.1.1 kc_X2_insertsAt rfl rfl (by decide) (by decide) (Nat.le_of_ble_eq_true rfl) dX0_laysDown_78 ?_
  obtain rfl := Option.some.inj hf
  exact qi_vret hC hQ hK dX0_laysDown_81
set_option maxRecDepth 100000 in
set_option maxHeartbeats 4000000 in
theorem t_X0_laysDown_34 {X : qaX} {l : Launch} {Y : qaY} {fin : qaM} {i0 : Nat} (hC : QC X l Y cX0_laysDown RX0 4 2) (hQ : QRv X Y fin) (hi0 : qaHou i0) {m : qaM} {v1 : Int32} {v2 : Int32} {v3 : Int32} {z : ((Int32 × Int32) ⊕ (qaM))} (hf : b_X0_laysDown_34 i0 m v1 v2 v3 = some z) (hK : (qa_K (fun s => QG X Y 4 m 34 [(0, .ref (Y.2.2.1 i0)), (1, .int v1), (2, .int s.1), (3, .int s.2)] []) (qa_eq fin)) z) : QG X Y 4 m 34 [(0, .ref (Y.2.2.1 i0)), (1, .int v1), (2, .int v2), (3, .int v3)] [] := by
  unfold b_X0_laysDown_34 at hf
  refine qi_iload_n hC 3 rfl rfl dX0_laysDown_34 ?_
  refine qi_bipush hC dX0_laysDown_35 kn_bipush_8 ?_
  refine qi_icmp_ge (tgt := 72) hC (by decide) dX0_laysDown_37 (fun h => ?_) (fun h => ?_)
  · replace hf := qa_if_t h hf
    obtain ⟨z, rfl, hg⟩ := qa_inr_e hf; have hf := hg
    refine qi_sub hC [0, 1, 2] rfl ?_
    exact t_X0_laysDown_72 hC hQ hi0 hf hK
  · replace hf := qa_if_f h hf
    refine qi_aload_n hC 0 rfl rfl dX0_laysDown_40 ?_
    refine qi_getr hC kf_X0_21 hi0.1 rfl dX0_laysDown_41 ?_
    refine qi_iload_n hC 2 rfl rfl dX0_laysDown_44 ?_
    obtain ⟨q2, hq2, hf⟩ := Option.bind_eq_some_iff.mp hf
    refine qi_callVi hC (as := [.int v2]) (c_X2_isPlace _ _ hi0.2.2.1 _ _ _ hq2) kl_X0_80 hi0.2.2.1.1 kc_X2_isPlace rfl rfl (by decide) (by decide) (Nat.le_of_ble_eq_true rfl) dX0_laysDown_45 ?_
    refine qi_if_eq (tgt := 72) hC (by decide) dX0_laysDown_48 (fun h => ?_) (fun h => ?_)
    · replace hf := qa_if_t h hf
      obtain ⟨z, rfl, hg⟩ := qa_inr_e hf; have hf := hg
      refine qi_sub hC [0, 1, 2] rfl ?_
      exact t_X0_laysDown_72 hC hQ hi0 hf hK
    · replace hf := qa_if_f h hf
      refine qi_aload_n hC 0 rfl rfl dX0_laysDown_51 ?_
      refine qi_getr hC kf_X0_21 hi0.1 rfl dX0_laysDown_52 ?_
      refine qi_iload_n hC 2 rfl rfl dX0_laysDown_55 ?_
      obtain ⟨q3, hq3, hf⟩ := Option.bind_eq_some_iff.mp hf
      refine qi_callVi hC (as := [.int v2]) (c_X2_at _ _ hi0.2.2.1 _ _ _ hq3) kl_X0_84 hi0.2.2.1.1 kc_X2_at rfl rfl (by decide) (by decide) (Nat.le_of_ble_eq_true rfl) dX0_laysDown_56 ?_
      refine qi_iload_n hC 1 rfl rfl dX0_laysDown_59 ?_
      refine qi_icmp_ge (tgt := 72) hC (by decide) dX0_laysDown_60 (fun h => ?_) (fun h => ?_)
      · replace hf := qa_if_t h hf
        obtain ⟨z, rfl, hg⟩ := qa_inr_e hf; have hf := hg
        refine qi_sub hC [0, 1, 2] rfl ?_
        exact t_X0_laysDown_72 hC hQ hi0 hf hK
      · replace hf := qa_if_f h hf
        obtain ⟨x4, ex4, hf⟩ := qa_lt_e hf
        refine qi_iinc hC (n := 1) (v := x4) 2 rfl ((congrArg (fun q => v2 + q) kn_iconst_1).trans ex4.symm) (by decide) rfl dX0_laysDown_63 ?_
        obtain ⟨x5, ex5, hf⟩ := qa_lt_e hf
        refine qi_iinc hC (n := 1) (v := x5) 3 rfl ((congrArg (fun q => v3 + q) kn_iconst_1).trans ex5.symm) (by decide) rfl dX0_laysDown_66 ?_
        refine qi_goto (tgt := 34) hC (by decide) dX0_laysDown_69 ?_
        obtain rfl := Option.some.inj hf
        refine qi_sub hC [2, 3, 1, 0] rfl ?_
        exact hK
set_option maxRecDepth 100000 in
set_option maxHeartbeats 4000000 in
theorem tn_X0_laysDown_34 {X : qaX} {l : Launch} {Y : qaY} {fin : qaM} {i0 : Nat} (hC : QC X l Y cX0_laysDown RX0 4 2) (hQ : QRv X Y fin) (hi0 : qaHou i0) {m : qaM} {v1 : Int32} {z : (qaM)} (hK : (qa_eq fin) z) : ∀ (n : Nat) (s : Int32 × Int32), qa_lp (fun s => b_X0_laysDown_34 i0 m v1 s.1 s.2) n s = some z → QG X Y 4 m 34 [(0, .ref (Y.2.2.1 i0)), (1, .int v1), (2, .int s.1), (3, .int s.2)] [] := by
  intro n
  induction n with
  | zero => intro s hf; cases hf
  | succ n ih =>
    intro s hf
    obtain ⟨y, hy, hf⟩ := qa_lp_e hf
    refine t_X0_laysDown_34 hC hQ hi0 hy ?_
    rcases hf with ⟨s', rfl, hf⟩ | rfl
    · exact ih s' hf
    · exact hK
set_option maxRecDepth 100000 in
set_option maxHeartbeats 4000000 in
theorem tl_X0_laysDown_34 {X : qaX} {l : Launch} {Y : qaY} {fin : qaM} {i0 : Nat} (hC : QC X l Y cX0_laysDown RX0 4 2) (hQ : QRv X Y fin) (hi0 : qaHou i0) {m : qaM} {v1 : Int32} {v2 : Int32} {v3 : Int32} {z : (qaM)} (hf : lp_X0_laysDown_34 i0 m v1 v2 v3 = some z) (hK : (qa_eq fin) z) : QG X Y 4 m 34 [(0, .ref (Y.2.2.1 i0)), (1, .int v1), (2, .int v2), (3, .int v3)] [] :=
  tn_X0_laysDown_34 hC hQ hi0 hK qa_F (v2, v3) hf
set_option maxRecDepth 100000 in
set_option maxHeartbeats 4000000 in
theorem c_X0_laysDown (l : Launch) (Y : qaY) {i0 : Nat} (hi0 : qaHou i0) (m : qaM) (v1 : Int32) (q : qaM) (hf : f_X0_laysDown i0 m v1 = some q) : qaMv l Y yX0_laysDown cX0_laysDown 4 2 [.ref (Y.2.2.1 i0), .int v1] m q := by
  refine qa_entv (by decide +kernel) (Nat.le_of_ble_eq_true rfl) fun X hC hQ => ?_
  have hK : qa_eq q q := rfl
  unfold f_X0_laysDown at hf
  refine qi_iconst hC dX0_laysDown_0 kn_iconst_0 ?_
  refine qi_istore_n hC rfl (by decide) rfl dX0_laysDown_1 ?_
  refine qi_aload_n hC 1 rfl rfl dX0_laysDown_2 ?_
  refine qi_getr hC kf_X0_25 hi0.1 rfl dX0_laysDown_3 ?_
  refine qi_iconst hC dX0_laysDown_6 kn_iconst_3 ?_
  refine qi_iald hC tn_3 hi0.2.2.2 vi_3_4 dX0_laysDown_7 ?_
  refine qi_iconst hC dX0_laysDown_8 kn_iconst_1 ?_
  refine qi_icmp_ne (tgt := 23) hC (by decide) dX0_laysDown_9 (fun h => ?_) (fun h => ?_)
  · replace hf := qa_if_f h hf
    refine qi_aload_n hC 1 rfl rfl dX0_laysDown_23 ?_
    refine qi_getr hC kf_X0_25 hi0.1 rfl dX0_laysDown_24 ?_
    refine qi_iconst hC dX0_laysDown_27 kn_iconst_3 ?_
    refine qi_iald hC tn_3 hi0.2.2.2 vi_3_4 dX0_laysDown_28 ?_
    refine qi_if_eq (tgt := 72) hC (by decide) dX0_laysDown_29 (fun h => ?_) (fun h => ?_)
    · replace hf := qa_if_t h hf
      refine qi_sub hC [1, 2, 0] rfl ?_
      exact t_X0_laysDown_72 hC hQ hi0 hf hK
    · replace hf := qa_if_f h hf
      refine qi_iconst hC dX0_laysDown_32 kn_iconst_0 ?_
      refine qi_istore_n hC rfl (by decide) rfl dX0_laysDown_33 ?_
      refine qi_sub hC [2, 3, 1, 0] rfl ?_
      exact tl_X0_laysDown_34 hC hQ hi0 hf hK
  · replace hf := qa_if_t h hf
    refine qi_aload_n hC 1 rfl rfl dX0_laysDown_12 ?_
    refine qi_getr hC kf_X0_21 hi0.1 rfl dX0_laysDown_13 ?_
    refine qi_geti hC kf_X0_77 hi0.2.2.1.1 rfl dX0_laysDown_16 ?_
    obtain ⟨x6, ex6, hf⟩ := qa_lt_e hf
    refine qi_nmi hC ex6 ?_
    refine qi_istore_n hC rfl (by decide) rfl dX0_laysDown_19 ?_
    refine qi_goto (tgt := 72) hC (by decide) dX0_laysDown_20 ?_
    refine qi_sub hC [1, 2, 0] rfl ?_
    exact t_X0_laysDown_72 hC hQ hi0 hf hK
set_option maxRecDepth 100000 in
set_option maxHeartbeats 4000000 in
theorem c_X0_canTurn (l : Launch) (Y : qaY) {i0 : Nat} (hi0 : qaHou i0) (m : qaM) (v1 : Int32) (q : Int32) (hf : f_X0_canTurn i0 m v1 = some q) : qaMi l Y yX0_canTurn cX0_canTurn 2 (some .boolean) 3 [.ref (Y.2.2.1 i0), .int v1] m m q := by
  refine qa_enti (by decide +kernel) (Nat.le_of_ble_eq_true rfl) fun X hC hQ => ?_
  have hK : qa_eq q q := rfl
  unfold f_X0_canTurn at hf
  refine qi_aload_n hC 0 rfl rfl dX0_canTurn_0 ?_
  refine qi_getr hC kf_X0_12 hi0.1 rfl dX0_canTurn_1 ?_
  refine qi_iload_n hC 1 rfl rfl dX0_canTurn_4 ?_
  refine qi_iconst hC dX0_canTurn_5 kn_iconst_5 ?_
  obtain ⟨q1, hq1, hf⟩ := Option.bind_eq_some_iff.mp hf
  refine qi_callVi hC (as := [.int v1, .int (5 : Int32)]) (c_X1_fact _ _ hi0.2.1 _ _ _ _ hq1) kl_X0_65 hi0.2.1.1 kc_X1_fact rfl rfl (by decide) (by decide) (Nat.le_of_ble_eq_true rfl) dX0_canTurn_6 ?_
  refine qi_if_ne (tgt := 28) hC (by decide) dX0_canTurn_9 (fun h => ?_) (fun h => ?_)
  · replace hf := qa_if_f h hf
    refine qi_iconst hC dX0_canTurn_28 kn_iconst_0 ?_
    obtain rfl := Option.some.inj hf
    exact qi_iretz hC hQ (congrArg (fun w => (w, m)) hK) rfl dX0_canTurn_29
  · replace hf := qa_if_t h hf
    refine qi_aload_n hC 0 rfl rfl dX0_canTurn_12 ?_
    refine qi_getr hC kf_X0_21 hi0.1 rfl dX0_canTurn_13 ?_
    refine qi_iload_n hC 1 rfl rfl dX0_canTurn_16 ?_
    obtain ⟨q2, hq2, hf⟩ := Option.bind_eq_some_iff.mp hf
    refine qi_callVi hC (as := [.int v1]) (c_X2_placeOf _ _ hi0.2.2.1 _ _ _ hq2) kl_X0_69 hi0.2.2.1.1 kc_X2_placeOf rfl rfl (by decide) (by decide) (Nat.le_of_ble_eq_true rfl) dX0_canTurn_17 ?_
    refine qi_iconst hC dX0_canTurn_20 kn_iconst_m1 ?_
    refine qi_icmp_eq (tgt := 28) hC (by decide) dX0_canTurn_21 (fun h => ?_) (fun h => ?_)
    · replace hf := qa_if_t h hf
      refine qi_iconst hC dX0_canTurn_28 kn_iconst_0 ?_
      obtain rfl := Option.some.inj hf
      exact qi_iretz hC hQ (congrArg (fun w => (w, m)) hK) rfl dX0_canTurn_29
    · replace hf := qa_if_f h hf
      refine qi_iconst hC dX0_canTurn_24 kn_iconst_1 ?_
      refine qi_goto (tgt := 29) hC (by decide) dX0_canTurn_25 ?_
      obtain rfl := Option.some.inj hf
      exact qi_iretz hC hQ (congrArg (fun w => (w, m)) hK) rfl dX0_canTurn_29
set_option maxRecDepth 100000 in
set_option maxHeartbeats 4000000 in
theorem c_X0_turnsOver (l : Launch) (Y : qaY) {i0 : Nat} (hi0 : qaHou i0) (m : qaM) (v1 : Int32) (q : qaM) (hf : f_X0_turnsOver i0 m v1 = some q) : qaMv l Y yX0_turnsOver cX0_turnsOver 2 2 [.ref (Y.2.2.1 i0), .int v1] m q := by
  refine qa_entv (by decide +kernel) (Nat.le_of_ble_eq_true rfl) fun X hC hQ => ?_
  have hK : qa_eq q q := rfl
  unfold f_X0_turnsOver at hf
  refine qi_aload_n hC 0 rfl rfl dX0_turnsOver_0 ?_
  refine qi_getr hC kf_X0_12 hi0.1 rfl dX0_turnsOver_1 ?_
  refine qi_iload_n hC 1 rfl rfl dX0_turnsOver_4 ?_
  refine qi_iconst hC dX0_turnsOver_5 kn_iconst_2 ?_
  refine qi_aload_n hC 0 rfl rfl dX0_turnsOver_6 ?_
  refine qi_getr hC kf_X0_12 hi0.1 rfl dX0_turnsOver_7 ?_
  refine qi_iload_n hC 1 rfl rfl dX0_turnsOver_10 ?_
  refine qi_iconst hC dX0_turnsOver_11 kn_iconst_2 ?_
  obtain ⟨q1, hq1, hf⟩ := Option.bind_eq_some_iff.mp hf
  refine qi_callVi hC (as := [.int v1, .int (2 : Int32)]) (c_X1_fact _ _ hi0.2.1 _ _ _ _ hq1) kl_X0_65 hi0.2.1.1 kc_X1_fact rfl rfl (by decide) (by decide) (Nat.le_of_ble_eq_true rfl) dX0_turnsOver_12 ?_
  refine qi_iconst hC dX0_turnsOver_15 kn_iconst_2 ?_
  refine qi_idiv hC (by decide) dX0_turnsOver_16 ?_
  obtain ⟨q2, hq2, hf⟩ := Option.bind_eq_some_iff.mp hf
  refine qi_callVv hC (as := [.int v1, .int (2 : Int32), .int (q1 / (2 : Int32))]) (c_X1_notes _ _ hi0.2.1 _ _ _ _ _ hq2) kl_X0_73 hi0.2.1.1 kc_X1_notes rfl rfl (by decide) (by decide) (Nat.le_of_ble_eq_true rfl) dX0_turnsOver_17 ?_
  refine qi_aload_n hC 0 rfl rfl dX0_turnsOver_20 ?_
  refine qi_getr hC kf_X0_12 hi0.1 rfl dX0_turnsOver_21 ?_
  refine qi_iload_n hC 1 rfl rfl dX0_turnsOver_24 ?_
  refine qi_iconst hC dX0_turnsOver_25 kn_iconst_5 ?_
  refine qi_iconst hC dX0_turnsOver_26 kn_iconst_1 ?_
  obtain ⟨q3, hq3, hf⟩ := Option.bind_eq_some_iff.mp hf
  refine qi_callVv hC (as := [.int v1, .int (5 : Int32), .int (1 : Int32)]) (c_X1_notes _ _ hi0.2.1 _ _ _ _ _ hq3) kl_X0_73 hi0.2.1.1 kc_X1_notes rfl rfl (by decide) (by decide) (Nat.le_of_ble_eq_true rfl) dX0_turnsOver_27 ?_
  obtain rfl := Option.some.inj hf
  exact qi_vret hC hQ hK dX0_turnsOver_30
set_option maxRecDepth 100000 in
set_option maxHeartbeats 4000000 in
theorem t_X0_placeToTake_27 {X : qaX} {l : Launch} {Y : qaY} {fin : Int32} {m : qaM} {i0 : Nat} (hC : QC X l Y cX0_placeToTake RX0 7 2) (hQ : QRi X Y (some .int) m fin) (hi0 : qaHou i0) {z : (Int32)} (hf : b_X0_placeToTake_27 i0 m = some z) (hK : (qa_eq fin) z) : QG X Y 7 m 27 [(0, .ref (Y.2.2.1 i0))] [] := by
  unfold b_X0_placeToTake_27 at hf
  refine qi_aload_n hC 0 rfl rfl dX0_placeToTake_27 ?_
  refine qi_getr hC kf_X0_21 hi0.1 rfl dX0_placeToTake_28 ?_
  refine qi_geti hC kf_X0_77 hi0.2.2.1.1 rfl dX0_placeToTake_31 ?_
  refine qi_iconst hC dX0_placeToTake_34 kn_iconst_1 ?_
  refine qi_isub hC dX0_placeToTake_35 ?_
  obtain rfl := Option.some.inj hf
  exact qi_ireti hC hQ (congrArg (fun w => (w, m)) hK) dX0_placeToTake_36
set_option maxRecDepth 100000 in
set_option maxHeartbeats 4000000 in
theorem t_X0_placeToTake_9 {X : qaX} {l : Launch} {Y : qaY} {fin : Int32} {m : qaM} {i0 : Nat} (hC : QC X l Y cX0_placeToTake RX0 7 2) (hQ : QRi X Y (some .int) m fin) (hi0 : qaHou i0) {v1 : Int32} {z : (Int32)} (hf : b_X0_placeToTake_9 i0 m v1 = some z) (hK : (qa_eq fin) z) : QG X Y 7 m 9 [(0, .ref (Y.2.2.1 i0)), (1, .int v1)] [] := by
  unfold b_X0_placeToTake_9 at hf
  refine qi_iload_n hC 1 rfl rfl dX0_placeToTake_9 ?_
  refine qi_if_ne (tgt := 27) hC (by decide) dX0_placeToTake_10 (fun h => ?_) (fun h => ?_)
  · replace hf := qa_if_f h hf
    refine qi_sub hC [0] rfl ?_
    exact t_X0_placeToTake_27 hC hQ hi0 hf hK
  · replace hf := qa_if_t h hf
    refine qi_aload_n hC 0 rfl rfl dX0_placeToTake_13 ?_
    refine qi_getr hC kf_X0_21 hi0.1 rfl dX0_placeToTake_14 ?_
    refine qi_geti hC kf_X0_77 hi0.2.2.1.1 rfl dX0_placeToTake_17 ?_
    refine qi_if_le (tgt := 27) hC (by decide) dX0_placeToTake_20 (fun h => ?_) (fun h => ?_)
    · replace hf := qa_if_t h hf
      refine qi_sub hC [0] rfl ?_
      exact t_X0_placeToTake_27 hC hQ hi0 hf hK
    · replace hf := qa_if_f h hf
      refine qi_iconst hC dX0_placeToTake_23 kn_iconst_0 ?_
      refine qi_goto (tgt := 36) hC (by decide) dX0_placeToTake_24 ?_
      obtain rfl := Option.some.inj hf
      exact qi_ireti hC hQ (congrArg (fun w => (w, m)) hK) dX0_placeToTake_36
set_option maxRecDepth 100000 in
set_option maxHeartbeats 4000000 in
theorem t_X0_placeToTake_115 {X : qaX} {l : Launch} {Y : qaY} {fin : Int32} {m : qaM} {i0 : Nat} (hC : QC X l Y cX0_placeToTake RX0 7 2) (hQ : QRi X Y (some .int) m fin) (hi0 : qaHou i0) {v1 : Int32} {v2 : Int32} {v3 : Int32} {v4 : Int32} {z : ((Int32 × Int32 × Int32) ⊕ (Int32))} (hf : b_X0_placeToTake_115 i0 m v1 v2 v3 v4 = some z) (hK : (qa_K (fun s => QG X Y 7 m 44 [(0, .ref (Y.2.2.1 i0)), (1, .int v1), (2, .int s.1), (3, .int s.2.1), (4, .int s.2.2)] []) (qa_eq fin)) z) : QG X Y 7 m 115 [(0, .ref (Y.2.2.1 i0)), (1, .int v1), (2, .int v2), (3, .int v3), (4, .int v4)] [] := by
  unfold b_X0_placeToTake_115 at hf
  obtain ⟨x3, ex3, hf⟩ := qa_lt_e hf
  refine qi_iinc hC (n := 1) (v := x3) 4 rfl ((congrArg (fun q => v4 + q) kn_iconst_1).trans ex3.symm) (by decide) rfl dX0_placeToTake_115 ?_
  refine qi_goto (tgt := 44) hC (by decide) dX0_placeToTake_118 ?_
  obtain rfl := Option.some.inj hf
  refine qi_sub hC [1, 2, 3, 4, 0] rfl ?_
  exact hK
set_option maxRecDepth 100000 in
set_option maxHeartbeats 4000000 in
theorem t_X0_placeToTake_109 {X : qaX} {l : Launch} {Y : qaY} {fin : Int32} {m : qaM} {i0 : Nat} (hC : QC X l Y cX0_placeToTake RX0 7 2) (hQ : QRi X Y (some .int) m fin) (hi0 : qaHou i0) {v1 : Int32} {v4 : Int32} {v6 : Int32} {z : ((Int32 × Int32 × Int32) ⊕ (Int32))} (hf : b_X0_placeToTake_109 i0 m v1 v4 v6 = some z) (hK : (qa_K (fun s => QG X Y 7 m 44 [(0, .ref (Y.2.2.1 i0)), (1, .int v1), (2, .int s.1), (3, .int s.2.1), (4, .int s.2.2)] []) (qa_eq fin)) z) : QG X Y 7 m 109 [(0, .ref (Y.2.2.1 i0)), (1, .int v1), (4, .int v4), (6, .int v6)] [] := by
  unfold b_X0_placeToTake_109 at hf
  refine qi_iload hC 2 rfl dX0_placeToTake_109 ?_
  refine qi_istore_n hC rfl (by decide) rfl dX0_placeToTake_111 ?_
  refine qi_iload hC 4 rfl dX0_placeToTake_112 ?_
  refine qi_istore_n hC rfl (by decide) rfl dX0_placeToTake_114 ?_
  refine qi_sub hC [2, 3, 1, 0, 4] rfl ?_
  exact t_X0_placeToTake_115 hC hQ hi0 hf hK
set_option maxRecDepth 100000 in
set_option maxHeartbeats 4000000 in
theorem t_X0_placeToTake_96 {X : qaX} {l : Launch} {Y : qaY} {fin : Int32} {m : qaM} {i0 : Nat} (hC : QC X l Y cX0_placeToTake RX0 7 2) (hQ : QRi X Y (some .int) m fin) (hi0 : qaHou i0) {v1 : Int32} {v2 : Int32} {v3 : Int32} {v4 : Int32} {s0 : Int32} {z : ((Int32 × Int32 × Int32) ⊕ (Int32))} (hf : b_X0_placeToTake_96 i0 m v1 v2 v3 v4 s0 = some z) (hK : (qa_K (fun s => QG X Y 7 m 44 [(0, .ref (Y.2.2.1 i0)), (1, .int v1), (2, .int s.1), (3, .int s.2.1), (4, .int s.2.2)] []) (qa_eq fin)) z) : QG X Y 7 m 96 [(0, .ref (Y.2.2.1 i0)), (1, .int v1), (2, .int v2), (3, .int v3), (4, .int v4)] [.int s0] := by
  unfold b_X0_placeToTake_96 at hf
  refine qi_istore hC (by decide) rfl dX0_placeToTake_96 ?_
  refine qi_iload_n hC 3 rfl rfl dX0_placeToTake_98 ?_
  refine qi_iconst hC dX0_placeToTake_99 kn_iconst_m1 ?_
  refine qi_icmp_eq (tgt := 109) hC (by decide) dX0_placeToTake_100 (fun h => ?_) (fun h => ?_)
  · replace hf := qa_if_t h hf
    refine qi_sub hC [1, 2, 5, 0] rfl ?_
    exact t_X0_placeToTake_109 hC hQ hi0 hf hK
  · replace hf := qa_if_f h hf
    refine qi_iload hC 0 rfl dX0_placeToTake_103 ?_
    refine qi_iload_n hC 4 rfl rfl dX0_placeToTake_105 ?_
    refine qi_icmp_le (tgt := 115) hC (by decide) dX0_placeToTake_106 (fun h => ?_) (fun h => ?_)
    · replace hf := qa_if_t h hf
      refine qi_sub hC [1, 2, 3, 4, 5] rfl ?_
      exact t_X0_placeToTake_115 hC hQ hi0 hf hK
    · replace hf := qa_if_f h hf
      refine qi_sub hC [1, 2, 5, 0] rfl ?_
      exact t_X0_placeToTake_109 hC hQ hi0 hf hK
set_option maxRecDepth 100000 in
set_option maxHeartbeats 4000000 in
theorem t_X0_placeToTake_44 {X : qaX} {l : Launch} {Y : qaY} {fin : Int32} {m : qaM} {i0 : Nat} (hC : QC X l Y cX0_placeToTake RX0 7 2) (hQ : QRi X Y (some .int) m fin) (hi0 : qaHou i0) {v1 : Int32} {v2 : Int32} {v3 : Int32} {v4 : Int32} {z : ((Int32 × Int32 × Int32) ⊕ (Int32))} (hf : b_X0_placeToTake_44 i0 m v1 v2 v3 v4 = some z) (hK : (qa_K (fun s => QG X Y 7 m 44 [(0, .ref (Y.2.2.1 i0)), (1, .int v1), (2, .int s.1), (3, .int s.2.1), (4, .int s.2.2)] []) (qa_eq fin)) z) : QG X Y 7 m 44 [(0, .ref (Y.2.2.1 i0)), (1, .int v1), (2, .int v2), (3, .int v3), (4, .int v4)] [] := by
  unfold b_X0_placeToTake_44 at hf
  refine qi_iload hC 4 rfl dX0_placeToTake_44 ?_
  refine qi_aload_n hC 0 rfl rfl dX0_placeToTake_46 ?_
  refine qi_getr hC kf_X0_21 hi0.1 rfl dX0_placeToTake_47 ?_
  refine qi_geti hC kf_X0_77 hi0.2.2.1.1 rfl dX0_placeToTake_50 ?_
  refine qi_icmp_ge (tgt := 121) hC (by decide) dX0_placeToTake_53 (fun h => ?_) (fun h => ?_)
  · replace hf := qa_if_t h hf
    refine qi_iload_n hC 2 rfl rfl dX0_placeToTake_121 ?_
    obtain ⟨z, rfl, hg⟩ := qa_inr_e hf; have hf := hg
    obtain rfl := Option.some.inj hf
    exact qi_ireti hC hQ (congrArg (fun w => (w, m)) hK) dX0_placeToTake_122
  · replace hf := qa_if_f h hf
    refine qi_aload_n hC 0 rfl rfl dX0_placeToTake_56 ?_
    refine qi_getr hC kf_X0_21 hi0.1 rfl dX0_placeToTake_57 ?_
    refine qi_iload hC 4 rfl dX0_placeToTake_60 ?_
    obtain ⟨q1, hq1, hf⟩ := Option.bind_eq_some_iff.mp hf
    refine qi_callVi hC (as := [.int v4]) (c_X2_at _ _ hi0.2.2.1 _ _ _ hq1) kl_X0_84 hi0.2.2.1.1 kc_X2_at rfl rfl (by decide) (by decide) (Nat.le_of_ble_eq_true rfl) dX0_placeToTake_62 ?_
    refine qi_istore hC (by decide) rfl dX0_placeToTake_65 ?_
    refine qi_iload_n hC 2 rfl rfl dX0_placeToTake_67 ?_
    refine qi_iconst hC dX0_placeToTake_68 kn_iconst_2 ?_
    refine qi_icmp_ne (tgt := 86) hC (by decide) dX0_placeToTake_69 (fun h => ?_) (fun h => ?_)
    · replace hf := qa_if_f h hf
      refine qi_aload_n hC 1 rfl rfl dX0_placeToTake_86 ?_
      refine qi_getr hC kf_X0_12 hi0.1 rfl dX0_placeToTake_87 ?_
      refine qi_iload hC 0 rfl dX0_placeToTake_90 ?_
      refine qi_iconst hC dX0_placeToTake_92 kn_iconst_4 ?_
      obtain ⟨q2, hq2, hf⟩ := Option.bind_eq_some_iff.mp hf
      refine qi_callVi hC (as := [.int q1, .int (4 : Int32)]) (c_X1_fact _ _ hi0.2.1 _ _ _ _ hq2) kl_X0_65 hi0.2.1.1 kc_X1_fact rfl rfl (by decide) (by decide) (Nat.le_of_ble_eq_true rfl) dX0_placeToTake_93 ?_
      refine qi_sub hC [1, 2, 3, 4, 5] rfl ?_
      exact t_X0_placeToTake_96 hC hQ hi0 hf hK
    · replace hf := qa_if_t h hf
      refine qi_aload_n hC 1 rfl rfl dX0_placeToTake_72 ?_
      refine qi_getr hC kf_X0_12 hi0.1 rfl dX0_placeToTake_73 ?_
      refine qi_iload hC 0 rfl dX0_placeToTake_76 ?_
      refine qi_iconst hC dX0_placeToTake_78 kn_iconst_2 ?_
      obtain ⟨q4, hq4, hf⟩ := Option.bind_eq_some_iff.mp hf
      refine qi_callVi hC (as := [.int q1, .int (2 : Int32)]) (c_X1_fact _ _ hi0.2.1 _ _ _ _ hq4) kl_X0_65 hi0.2.1.1 kc_X1_fact rfl rfl (by decide) (by decide) (Nat.le_of_ble_eq_true rfl) dX0_placeToTake_79 ?_
      refine qi_ineg hC dX0_placeToTake_82 ?_
      refine qi_goto (tgt := 96) hC (by decide) dX0_placeToTake_83 ?_
      refine qi_sub hC [1, 2, 3, 4, 5] rfl ?_
      exact t_X0_placeToTake_96 hC hQ hi0 hf hK
set_option maxRecDepth 100000 in
set_option maxHeartbeats 4000000 in
theorem tn_X0_placeToTake_44 {X : qaX} {l : Launch} {Y : qaY} {fin : Int32} {m : qaM} {i0 : Nat} (hC : QC X l Y cX0_placeToTake RX0 7 2) (hQ : QRi X Y (some .int) m fin) (hi0 : qaHou i0) {v1 : Int32} {z : (Int32)} (hK : (qa_eq fin) z) : ∀ (n : Nat) (s : Int32 × Int32 × Int32), qa_lp (fun s => b_X0_placeToTake_44 i0 m v1 s.1 s.2.1 s.2.2) n s = some z → QG X Y 7 m 44 [(0, .ref (Y.2.2.1 i0)), (1, .int v1), (2, .int s.1), (3, .int s.2.1), (4, .int s.2.2)] [] := by
  intro n
  induction n with
  | zero => intro s hf; cases hf
  | succ n ih =>
    intro s hf
    obtain ⟨y, hy, hf⟩ := qa_lp_e hf
    refine t_X0_placeToTake_44 hC hQ hi0 hy ?_
    rcases hf with ⟨s', rfl, hf⟩ | rfl
    · exact ih s' hf
    · exact hK
set_option maxRecDepth 100000 in
set_option maxHeartbeats 4000000 in
theorem tl_X0_placeToTake_44 {X : qaX} {l : Launch} {Y : qaY} {fin : Int32} {m : qaM} {i0 : Nat} (hC : QC X l Y cX0_placeToTake RX0 7 2) (hQ : QRi X Y (some .int) m fin) (hi0 : qaHou i0) {v1 : Int32} {v2 : Int32} {v3 : Int32} {v4 : Int32} {z : (Int32)} (hf : lp_X0_placeToTake_44 i0 m v1 v2 v3 v4 = some z) (hK : (qa_eq fin) z) : QG X Y 7 m 44 [(0, .ref (Y.2.2.1 i0)), (1, .int v1), (2, .int v2), (3, .int v3), (4, .int v4)] [] :=
  tn_X0_placeToTake_44 hC hQ hi0 hK qa_F (v2, v3, v4) hf
set_option maxRecDepth 100000 in
set_option maxHeartbeats 4000000 in
theorem c_X0_placeToTake (l : Launch) (Y : qaY) {i0 : Nat} (hi0 : qaHou i0) (m : qaM) (v1 : Int32) (q : Int32) (hf : f_X0_placeToTake i0 m v1 = some q) : qaMi l Y yX0_placeToTake cX0_placeToTake 7 (some .int) 2 [.ref (Y.2.2.1 i0), .int v1] m m q := by
  refine qa_enti (by decide +kernel) (Nat.le_of_ble_eq_true rfl) fun X hC hQ => ?_
  have hK : qa_eq q q := rfl
  unfold f_X0_placeToTake at hf
  refine qi_iload_n hC 1 rfl rfl dX0_placeToTake_0 ?_
  refine qi_if_eq (tgt := 9) hC (by decide) dX0_placeToTake_1 (fun h => ?_) (fun h => ?_)
  · replace hf := qa_if_t h hf
    exact t_X0_placeToTake_9 hC hQ hi0 hf hK
  · replace hf := qa_if_f h hf
    refine qi_iload_n hC 1 rfl rfl dX0_placeToTake_4 ?_
    refine qi_iconst hC dX0_placeToTake_5 kn_iconst_1 ?_
    refine qi_icmp_ne (tgt := 37) hC (by decide) dX0_placeToTake_6 (fun h => ?_) (fun h => ?_)
    · replace hf := qa_if_f h hf
      refine qi_iconst hC dX0_placeToTake_37 kn_iconst_m1 ?_
      refine qi_istore_n hC rfl (by decide) rfl dX0_placeToTake_38 ?_
      refine qi_iconst hC dX0_placeToTake_39 kn_iconst_0 ?_
      refine qi_istore_n hC rfl (by decide) rfl dX0_placeToTake_40 ?_
      refine qi_iconst hC dX0_placeToTake_41 kn_iconst_0 ?_
      refine qi_istore hC (by decide) rfl dX0_placeToTake_42 ?_
      refine qi_sub hC [3, 4, 2, 1, 0] rfl ?_
      exact tl_X0_placeToTake_44 hC hQ hi0 hf hK
    · replace hf := qa_if_t h hf
      exact t_X0_placeToTake_9 hC hQ hi0 hf hK
set_option maxRecDepth 100000 in
set_option maxHeartbeats 4000000 in
theorem c_X0_markOf (l : Launch) (Y : qaY) {i0 : Nat} (hi0 : qaHou i0) (m : qaM) (v1 : Int32) (v2 : Int32) (q : Int32) (hf : f_X0_markOf i0 m v1 v2 = some q) : qaMi l Y yX0_markOf cX0_markOf 3 (some .int) 2 [.ref (Y.2.2.1 i0), .int v1, .int v2] m m q := by
  refine qa_enti (by decide +kernel) (Nat.le_of_ble_eq_true rfl) fun X hC hQ => ?_
  have hK : qa_eq q q := rfl
  unfold f_X0_markOf at hf
  refine qi_iload_n hC 2 rfl rfl dX0_markOf_0 ?_
  refine qi_iconst hC dX0_markOf_1 kn_iconst_2 ?_
  refine qi_icmp_ne (tgt := 7) hC (by decide) dX0_markOf_2 (fun h => ?_) (fun h => ?_)
  · replace hf := qa_if_f h hf
    refine qi_iload_n hC 2 rfl rfl dX0_markOf_7 ?_
    refine qi_if_ne (tgt := 23) hC (by decide) dX0_markOf_8 (fun h => ?_) (fun h => ?_)
    · replace hf := qa_if_f h hf
      refine qi_aload_n hC 0 rfl rfl dX0_markOf_23 ?_
      refine qi_getr hC kf_X0_12 hi0.1 rfl dX0_markOf_24 ?_
      refine qi_iload_n hC 1 rfl rfl dX0_markOf_27 ?_
      refine qi_iconst hC dX0_markOf_28 kn_iconst_2 ?_
      obtain ⟨q1, hq1, hf⟩ := Option.bind_eq_some_iff.mp hf
      refine qi_callVi hC (as := [.int v1, .int (2 : Int32)]) (c_X1_fact _ _ hi0.2.1 _ _ _ _ hq1) kl_X0_65 hi0.2.1.1 kc_X1_fact rfl rfl (by decide) (by decide) (Nat.le_of_ble_eq_true rfl) dX0_markOf_29 ?_
      refine qi_ineg hC dX0_markOf_32 ?_
      obtain rfl := Option.some.inj hf
      exact qi_ireti hC hQ (congrArg (fun w => (w, m)) hK) dX0_markOf_33
    · replace hf := qa_if_t h hf
      refine qi_aload_n hC 0 rfl rfl dX0_markOf_11 ?_
      refine qi_getr hC kf_X0_12 hi0.1 rfl dX0_markOf_12 ?_
      refine qi_iload_n hC 1 rfl rfl dX0_markOf_15 ?_
      refine qi_iconst hC dX0_markOf_16 kn_iconst_2 ?_
      obtain ⟨q2, hq2, hf⟩ := Option.bind_eq_some_iff.mp hf
      refine qi_callVi hC (as := [.int v1, .int (2 : Int32)]) (c_X1_fact _ _ hi0.2.1 _ _ _ _ hq2) kl_X0_65 hi0.2.1.1 kc_X1_fact rfl rfl (by decide) (by decide) (Nat.le_of_ble_eq_true rfl) dX0_markOf_17 ?_
      refine qi_goto (tgt := 33) hC (by decide) dX0_markOf_20 ?_
      obtain rfl := Option.some.inj hf
      exact qi_ireti hC hQ (congrArg (fun w => (w, m)) hK) dX0_markOf_33
  · replace hf := qa_if_t h hf
    refine qi_iload_n hC 1 rfl rfl dX0_markOf_5 ?_
    obtain rfl := Option.some.inj hf
    exact qi_ireti hC hQ (congrArg (fun w => (w, m)) hK) dX0_markOf_6
set_option maxRecDepth 100000 in
set_option maxHeartbeats 4000000 in
theorem t_X0_sortsPile_78 {X : qaX} {l : Launch} {Y : qaY} {fin : qaM} {i0 : Nat} (hC : QC X l Y cX0_sortsPile RX0 7 3) (hQ : QRv X Y fin) (hi0 : qaHou i0) {m : qaM} {v1 : Int32} {v2 : Int32} {v3 : Int32} {v4 : Int32} {v5 : Int32} {z : ((qaM × Int32) ⊕ (qaM))} (hf : b_X0_sortsPile_78 i0 m v1 v2 v3 v4 v5 = some z) (hK : (qa_K (fun s => QG X Y 7 s.1 10 [(0, .ref (Y.2.2.1 i0)), (1, .int v1), (2, .int v2), (3, .int s.2)] []) (qa_eq fin)) z) : QG X Y 7 m 78 [(0, .ref (Y.2.2.1 i0)), (1, .int v1), (2, .int v2), (3, .int v3), (4, .int v4), (5, .int v5)] [] := by
  unfold b_X0_sortsPile_78 at hf
  refine qi_aload_n hC 0 rfl rfl dX0_sortsPile_78 ?_
  refine qi_getr hC kf_X0_21 hi0.1 rfl dX0_sortsPile_79 ?_
  refine qi_iload hC 5 rfl dX0_sortsPile_82 ?_
  refine qi_iload hC 4 rfl dX0_sortsPile_84 ?_
  obtain ⟨q3, hq3, hf⟩ := Option.bind_eq_some_iff.mp hf
  refine qi_callVv hC (as := [.int v5, .int v4]) (c_X2_insertsAt _ _ hi0.2.2.1 _ _ _ _ hq3) kl_X0_87 hi0.2.2.1.1 kc_X2_insertsAt rfl rfl (by decide) (by decide) (Nat.le_of_ble_eq_true rfl) dX0_sortsPile_86 ?_
  obtain ⟨x4, ex4, hf⟩ := qa_lt_e hf
  refine qi_iinc hC (n := 1) (v := x4) 3 rfl ((congrArg (fun q => v3 + q) kn_iconst_1).trans ex4.symm) (by decide) rfl dX0_sortsPile_89 ?_
  refine qi_goto (tgt := 10) hC (by decide) dX0_sortsPile_92 ?_
  obtain rfl := Option.some.inj hf
  refine qi_sub hC [1, 2, 3, 0] rfl ?_
  exact hK
set_option maxRecDepth 100000 in
set_option maxHeartbeats 4000000 in
theorem t_X0_sortsPile_31 {X : qaX} {l : Launch} {Y : qaY} {fin : qaM} {i0 : Nat} (hC : QC X l Y cX0_sortsPile RX0 7 3) (hQ : QRv X Y fin) (hi0 : qaHou i0) {m : qaM} {v1 : Int32} {v2 : Int32} {v3 : Int32} {v4 : Int32} {v5 : Int32} {v6 : Int32} {z : ((Int32 × Int32) ⊕ ((qaM × Int32) ⊕ (qaM)))} (hf : b_X0_sortsPile_31 i0 m v1 v2 v3 v4 v5 v6 = some z) (hK : (qa_K (fun s => QG X Y 7 m 31 [(0, .ref (Y.2.2.1 i0)), (1, .int v1), (2, .int v2), (3, .int v3), (4, .int v4), (5, .int s.1), (6, .int s.2)] []) (qa_K (fun s => QG X Y 7 s.1 10 [(0, .ref (Y.2.2.1 i0)), (1, .int v1), (2, .int v2), (3, .int s.2)] []) (qa_eq fin))) z) : QG X Y 7 m 31 [(0, .ref (Y.2.2.1 i0)), (1, .int v1), (2, .int v2), (3, .int v3), (4, .int v4), (5, .int v5), (6, .int v6)] [] := by
  unfold b_X0_sortsPile_31 at hf
  refine qi_iload hC 6 rfl dX0_sortsPile_31 ?_
  refine qi_bipush hC dX0_sortsPile_33 kn_bipush_8 ?_
  refine qi_icmp_ge (tgt := 78) hC (by decide) dX0_sortsPile_35 (fun h => ?_) (fun h => ?_)
  · replace hf := qa_if_t h hf
    obtain ⟨z, rfl, hg⟩ := qa_inr_e hf; have hf := hg
    refine qi_sub hC [0, 1, 2, 3, 4, 5] rfl ?_
    exact t_X0_sortsPile_78 hC hQ hi0 hf hK
  · replace hf := qa_if_f h hf
    refine qi_iload hC 5 rfl dX0_sortsPile_38 ?_
    refine qi_if_le (tgt := 78) hC (by decide) dX0_sortsPile_40 (fun h => ?_) (fun h => ?_)
    · replace hf := qa_if_t h hf
      obtain ⟨z, rfl, hg⟩ := qa_inr_e hf; have hf := hg
      refine qi_sub hC [0, 1, 2, 3, 4, 5] rfl ?_
      exact t_X0_sortsPile_78 hC hQ hi0 hf hK
    · replace hf := qa_if_f h hf
      refine qi_aload_n hC 0 rfl rfl dX0_sortsPile_43 ?_
      refine qi_aload_n hC 0 rfl rfl dX0_sortsPile_44 ?_
      refine qi_getr hC kf_X0_21 hi0.1 rfl dX0_sortsPile_45 ?_
      refine qi_iload hC 5 rfl dX0_sortsPile_48 ?_
      refine qi_iconst hC dX0_sortsPile_50 kn_iconst_1 ?_
      refine qi_isub hC dX0_sortsPile_51 ?_
      obtain ⟨q5, hq5, hf⟩ := Option.bind_eq_some_iff.mp hf
      refine qi_callVi hC (as := [.int (v5 - (1 : Int32))]) (c_X2_at _ _ hi0.2.2.1 _ _ _ hq5) kl_X0_84 hi0.2.2.1.1 kc_X2_at rfl rfl (by decide) (by decide) (Nat.le_of_ble_eq_true rfl) dX0_sortsPile_52 ?_
      refine qi_iload_n hC 1 rfl rfl dX0_sortsPile_55 ?_
      obtain ⟨q6, hq6, hf⟩ := Option.bind_eq_some_iff.mp hf
      refine qi_callVi hC (as := [.int q5, .int v1]) (c_X0_markOf _ _ hi0 _ _ _ _ hq6) kl_X0_94 hi0.1 kc_X0_markOf rfl rfl (by decide) (by decide) (Nat.le_of_ble_eq_true rfl) dX0_sortsPile_56 ?_
      refine qi_aload_n hC 0 rfl rfl dX0_sortsPile_59 ?_
      refine qi_iload hC 4 rfl dX0_sortsPile_60 ?_
      refine qi_iload_n hC 1 rfl rfl dX0_sortsPile_62 ?_
      obtain ⟨q7, hq7, hf⟩ := Option.bind_eq_some_iff.mp hf
      refine qi_callVi hC (as := [.int v4, .int v1]) (c_X0_markOf _ _ hi0 _ _ _ _ hq7) kl_X0_94 hi0.1 kc_X0_markOf rfl rfl (by decide) (by decide) (Nat.le_of_ble_eq_true rfl) dX0_sortsPile_63 ?_
      refine qi_icmp_le (tgt := 78) hC (by decide) dX0_sortsPile_66 (fun h => ?_) (fun h => ?_)
      · replace hf := qa_if_t h hf
        obtain ⟨z, rfl, hg⟩ := qa_inr_e hf; have hf := hg
        refine qi_sub hC [0, 1, 2, 3, 4, 5] rfl ?_
        exact t_X0_sortsPile_78 hC hQ hi0 hf hK
      · replace hf := qa_if_f h hf
        obtain ⟨x8, ex8, hf⟩ := qa_lt_e hf
        refine qi_iinc hC (n := -1) (v := x8) 5 rfl ((congrArg (fun q => v5 + q) kn_iconst_m1).trans ex8.symm) (by decide) rfl dX0_sortsPile_69 ?_
        obtain ⟨x9, ex9, hf⟩ := qa_lt_e hf
        refine qi_iinc hC (n := 1) (v := x9) 6 rfl ((congrArg (fun q => v6 + q) kn_iconst_1).trans ex9.symm) (by decide) rfl dX0_sortsPile_72 ?_
        refine qi_goto (tgt := 31) hC (by decide) dX0_sortsPile_75 ?_
        obtain rfl := Option.some.inj hf
        refine qi_sub hC [2, 3, 4, 5, 6, 1, 0] rfl ?_
        exact hK
set_option maxRecDepth 100000 in
set_option maxHeartbeats 4000000 in
theorem tn_X0_sortsPile_31 {X : qaX} {l : Launch} {Y : qaY} {fin : qaM} {i0 : Nat} (hC : QC X l Y cX0_sortsPile RX0 7 3) (hQ : QRv X Y fin) (hi0 : qaHou i0) {m : qaM} {v1 : Int32} {v2 : Int32} {v3 : Int32} {v4 : Int32} {z : ((qaM × Int32) ⊕ (qaM))} (hK : (qa_K (fun s => QG X Y 7 s.1 10 [(0, .ref (Y.2.2.1 i0)), (1, .int v1), (2, .int v2), (3, .int s.2)] []) (qa_eq fin)) z) : ∀ (n : Nat) (s : Int32 × Int32), qa_lp (fun s => b_X0_sortsPile_31 i0 m v1 v2 v3 v4 s.1 s.2) n s = some z → QG X Y 7 m 31 [(0, .ref (Y.2.2.1 i0)), (1, .int v1), (2, .int v2), (3, .int v3), (4, .int v4), (5, .int s.1), (6, .int s.2)] [] := by
  intro n
  induction n with
  | zero => intro s hf; cases hf
  | succ n ih =>
    intro s hf
    obtain ⟨y, hy, hf⟩ := qa_lp_e hf
    refine t_X0_sortsPile_31 hC hQ hi0 hy ?_
    rcases hf with ⟨s', rfl, hf⟩ | rfl
    · exact ih s' hf
    · exact hK
set_option maxRecDepth 100000 in
set_option maxHeartbeats 4000000 in
theorem tl_X0_sortsPile_31 {X : qaX} {l : Launch} {Y : qaY} {fin : qaM} {i0 : Nat} (hC : QC X l Y cX0_sortsPile RX0 7 3) (hQ : QRv X Y fin) (hi0 : qaHou i0) {m : qaM} {v1 : Int32} {v2 : Int32} {v3 : Int32} {v4 : Int32} {v5 : Int32} {v6 : Int32} {z : ((qaM × Int32) ⊕ (qaM))} (hf : lp_X0_sortsPile_31 i0 m v1 v2 v3 v4 v5 v6 = some z) (hK : (qa_K (fun s => QG X Y 7 s.1 10 [(0, .ref (Y.2.2.1 i0)), (1, .int v1), (2, .int v2), (3, .int s.2)] []) (qa_eq fin)) z) : QG X Y 7 m 31 [(0, .ref (Y.2.2.1 i0)), (1, .int v1), (2, .int v2), (3, .int v3), (4, .int v4), (5, .int v5), (6, .int v6)] [] :=
  tn_X0_sortsPile_31 hC hQ hi0 hK qa_F (v5, v6) hf
set_option maxRecDepth 100000 in
set_option maxHeartbeats 4000000 in
theorem t_X0_sortsPile_10 {X : qaX} {l : Launch} {Y : qaY} {fin : qaM} {i0 : Nat} (hC : QC X l Y cX0_sortsPile RX0 7 3) (hQ : QRv X Y fin) (hi0 : qaHou i0) {m : qaM} {v1 : Int32} {v2 : Int32} {v3 : Int32} {z : ((qaM × Int32) ⊕ (qaM))} (hf : b_X0_sortsPile_10 i0 m v1 v2 v3 = some z) (hK : (qa_K (fun s => QG X Y 7 s.1 10 [(0, .ref (Y.2.2.1 i0)), (1, .int v1), (2, .int v2), (3, .int s.2)] []) (qa_eq fin)) z) : QG X Y 7 m 10 [(0, .ref (Y.2.2.1 i0)), (1, .int v1), (2, .int v2), (3, .int v3)] [] := by
  unfold b_X0_sortsPile_10 at hf
  refine qi_iload_n hC 3 rfl rfl dX0_sortsPile_10 ?_
  refine qi_iload_n hC 2 rfl rfl dX0_sortsPile_11 ?_
  refine qi_icmp_ge (tgt := 95) hC (by decide) dX0_sortsPile_12 (fun h => ?_) (fun h => ?_)
  · replace hf := qa_if_t h hf
    obtain ⟨z, rfl, hg⟩ := qa_inr_e hf; have hf := hg
    obtain rfl := Option.some.inj hf
    exact qi_vret hC hQ hK dX0_sortsPile_95
  · replace hf := qa_if_f h hf
    refine qi_aload_n hC 0 rfl rfl dX0_sortsPile_15 ?_
    refine qi_getr hC kf_X0_21 hi0.1 rfl dX0_sortsPile_16 ?_
    refine qi_iload_n hC 3 rfl rfl dX0_sortsPile_19 ?_
    obtain ⟨q2, hq2, hf⟩ := Option.bind_eq_some_iff.mp hf
    refine qi_callVi hC (as := [.int v3]) (c_X2_removesAt _ _ hi0.2.2.1 _ _ _ hq2) kl_X0_91 hi0.2.2.1.1 kc_X2_removesAt rfl rfl (by decide) (by decide) (Nat.le_of_ble_eq_true rfl) dX0_sortsPile_20 ?_
    refine qi_istore hC (by decide) rfl dX0_sortsPile_23 ?_
    refine qi_iload_n hC 4 rfl rfl dX0_sortsPile_25 ?_
    refine qi_istore hC (by decide) rfl dX0_sortsPile_26 ?_
    refine qi_iconst hC dX0_sortsPile_28 kn_iconst_0 ?_
    refine qi_istore hC (by decide) rfl dX0_sortsPile_29 ?_
    refine qi_sub hC [3, 4, 5, 6, 2, 1, 0] rfl ?_
    exact tl_X0_sortsPile_31 hC hQ hi0 hf hK
set_option maxRecDepth 100000 in
set_option maxHeartbeats 4000000 in
theorem tn_X0_sortsPile_10 {X : qaX} {l : Launch} {Y : qaY} {fin : qaM} {i0 : Nat} (hC : QC X l Y cX0_sortsPile RX0 7 3) (hQ : QRv X Y fin) (hi0 : qaHou i0) {v1 : Int32} {v2 : Int32} {z : (qaM)} (hK : (qa_eq fin) z) : ∀ (n : Nat) (s : qaM × Int32), qa_lp (fun s => b_X0_sortsPile_10 i0 s.1 v1 v2 s.2) n s = some z → QG X Y 7 s.1 10 [(0, .ref (Y.2.2.1 i0)), (1, .int v1), (2, .int v2), (3, .int s.2)] [] := by
  intro n
  induction n with
  | zero => intro s hf; cases hf
  | succ n ih =>
    intro s hf
    obtain ⟨y, hy, hf⟩ := qa_lp_e hf
    refine t_X0_sortsPile_10 hC hQ hi0 hy ?_
    rcases hf with ⟨s', rfl, hf⟩ | rfl
    · exact ih s' hf
    · exact hK
set_option maxRecDepth 100000 in
set_option maxHeartbeats 4000000 in
theorem tl_X0_sortsPile_10 {X : qaX} {l : Launch} {Y : qaY} {fin : qaM} {i0 : Nat} (hC : QC X l Y cX0_sortsPile RX0 7 3) (hQ : QRv X Y fin) (hi0 : qaHou i0) {m : qaM} {v1 : Int32} {v2 : Int32} {v3 : Int32} {z : (qaM)} (hf : lp_X0_sortsPile_10 i0 m v1 v2 v3 = some z) (hK : (qa_eq fin) z) : QG X Y 7 m 10 [(0, .ref (Y.2.2.1 i0)), (1, .int v1), (2, .int v2), (3, .int v3)] [] :=
  tn_X0_sortsPile_10 hC hQ hi0 hK qa_F (m, v3) hf
set_option maxRecDepth 100000 in
set_option maxHeartbeats 4000000 in
theorem c_X0_sortsPile (l : Launch) (Y : qaY) {i0 : Nat} (hi0 : qaHou i0) (m : qaM) (v1 : Int32) (q : qaM) (hf : f_X0_sortsPile i0 m v1 = some q) : qaMv l Y yX0_sortsPile cX0_sortsPile 7 3 [.ref (Y.2.2.1 i0), .int v1] m q := by
  refine qa_entv (by decide +kernel) (Nat.le_of_ble_eq_true rfl) fun X hC hQ => ?_
  have hK : qa_eq q q := rfl
  unfold f_X0_sortsPile at hf
  refine qi_aload_n hC 0 rfl rfl dX0_sortsPile_0 ?_
  refine qi_getr hC kf_X0_21 hi0.1 rfl dX0_sortsPile_1 ?_
  refine qi_geti hC kf_X0_77 hi0.2.2.1.1 rfl dX0_sortsPile_4 ?_
  obtain ⟨x1, ex1, hf⟩ := qa_lt_e hf
  refine qi_nmi hC ex1 ?_
  refine qi_istore_n hC rfl (by decide) rfl dX0_sortsPile_7 ?_
  refine qi_iconst hC dX0_sortsPile_8 kn_iconst_1 ?_
  refine qi_istore_n hC rfl (by decide) rfl dX0_sortsPile_9 ?_
  refine qi_sub hC [2, 3, 1, 0] rfl ?_
  exact tl_X0_sortsPile_10 hC hQ hi0 hf hK
set_option maxRecDepth 100000 in
set_option maxHeartbeats 4000000 in
theorem t_X0_comesBack_51 {X : qaX} {l : Launch} {Y : qaY} {fin : qaM} {i0 : Nat} (hC : QC X l Y cX0_comesBack RX0 3 3) (hQ : QRv X Y fin) (hi0 : qaHou i0) {m : qaM} {v1 : Int32} {z : ((qaM × Int32) ⊕ (qaM))} (hf : b_X0_comesBack_51 i0 m v1 = some z) (hK : (qa_K (fun s => QG X Y 3 s.1 2 [(0, .ref (Y.2.2.1 i0)), (1, .int s.2)] []) (qa_eq fin)) z) : QG X Y 3 m 51 [(0, .ref (Y.2.2.1 i0)), (1, .int v1)] [] := by
  unfold b_X0_comesBack_51 at hf
  obtain ⟨x2, ex2, hf⟩ := qa_lt_e hf
  refine qi_iinc hC (n := 1) (v := x2) 1 rfl ((congrArg (fun q => v1 + q) kn_iconst_1).trans ex2.symm) (by decide) rfl dX0_comesBack_51 ?_
  refine qi_goto (tgt := 2) hC (by decide) dX0_comesBack_54 ?_
  obtain rfl := Option.some.inj hf
  refine qi_sub hC [1, 0] rfl ?_
  exact hK
set_option maxRecDepth 100000 in
set_option maxHeartbeats 4000000 in
theorem t_X0_comesBack_2 {X : qaX} {l : Launch} {Y : qaY} {fin : qaM} {i0 : Nat} (hC : QC X l Y cX0_comesBack RX0 3 3) (hQ : QRv X Y fin) (hi0 : qaHou i0) {m : qaM} {v1 : Int32} {z : ((qaM × Int32) ⊕ (qaM))} (hf : b_X0_comesBack_2 i0 m v1 = some z) (hK : (qa_K (fun s => QG X Y 3 s.1 2 [(0, .ref (Y.2.2.1 i0)), (1, .int s.2)] []) (qa_eq fin)) z) : QG X Y 3 m 2 [(0, .ref (Y.2.2.1 i0)), (1, .int v1)] [] := by
  unfold b_X0_comesBack_2 at hf
  refine qi_iload_n hC 1 rfl rfl dX0_comesBack_2 ?_
  refine qi_aload_n hC 0 rfl rfl dX0_comesBack_3 ?_
  refine qi_getr hC kf_X0_12 hi0.1 rfl dX0_comesBack_4 ?_
  refine qi_geti hC kf_X0_129 hi0.2.1.1 rfl dX0_comesBack_7 ?_
  refine qi_icmp_ge (tgt := 57) hC (by decide) dX0_comesBack_10 (fun h => ?_) (fun h => ?_)
  · replace hf := qa_if_t h hf
    obtain ⟨z, rfl, hg⟩ := qa_inr_e hf; have hf := hg
    obtain rfl := Option.some.inj hf
    exact qi_vret hC hQ hK dX0_comesBack_57
  · replace hf := qa_if_f h hf
    refine qi_aload_n hC 0 rfl rfl dX0_comesBack_13 ?_
    refine qi_getr hC kf_X0_12 hi0.1 rfl dX0_comesBack_14 ?_
    refine qi_iload_n hC 1 rfl rfl dX0_comesBack_17 ?_
    refine qi_bipush hC dX0_comesBack_18 kn_bipush_6 ?_
    obtain ⟨q1, hq1, hf⟩ := Option.bind_eq_some_iff.mp hf
    refine qi_callVi hC (as := [.int v1, .int (6 : Int32)]) (c_X1_fact _ _ hi0.2.1 _ _ _ _ hq1) kl_X0_65 hi0.2.1.1 kc_X1_fact rfl rfl (by decide) (by decide) (Nat.le_of_ble_eq_true rfl) dX0_comesBack_20 ?_
    refine qi_istore_n hC rfl (by decide) rfl dX0_comesBack_23 ?_
    refine qi_iload_n hC 0 rfl rfl dX0_comesBack_24 ?_
    refine qi_if_le (tgt := 51) hC (by decide) dX0_comesBack_25 (fun h => ?_) (fun h => ?_)
    · replace hf := qa_if_t h hf
      refine qi_sub hC [1, 2] rfl ?_
      exact t_X0_comesBack_51 hC hQ hi0 hf hK
    · replace hf := qa_if_f h hf
      refine qi_aload_n hC 1 rfl rfl dX0_comesBack_28 ?_
      refine qi_getr hC kf_X0_12 hi0.1 rfl dX0_comesBack_29 ?_
      refine qi_iload_n hC 2 rfl rfl dX0_comesBack_32 ?_
      refine qi_bipush hC dX0_comesBack_33 kn_bipush_6 ?_
      refine qi_iload_n hC 0 rfl rfl dX0_comesBack_35 ?_
      refine qi_iconst hC dX0_comesBack_36 kn_iconst_1 ?_
      refine qi_isub hC dX0_comesBack_37 ?_
      obtain ⟨q3, hq3, hf⟩ := Option.bind_eq_some_iff.mp hf
      refine qi_callVv hC (as := [.int v1, .int (6 : Int32), .int (q1 - (1 : Int32))]) (c_X1_notes _ _ hi0.2.1 _ _ _ _ _ hq3) kl_X0_73 hi0.2.1.1 kc_X1_notes rfl rfl (by decide) (by decide) (Nat.le_of_ble_eq_true rfl) dX0_comesBack_38 ?_
      refine qi_iload_n hC 0 rfl rfl dX0_comesBack_41 ?_
      refine qi_iconst hC dX0_comesBack_42 kn_iconst_1 ?_
      refine qi_icmp_ne (tgt := 51) hC (by decide) dX0_comesBack_43 (fun h => ?_) (fun h => ?_)
      · replace hf := qa_if_f h hf
        refine qi_sub hC [1, 2] rfl ?_
        exact t_X0_comesBack_51 hC hQ hi0 hf hK
      · replace hf := qa_if_t h hf
        refine qi_aload_n hC 1 rfl rfl dX0_comesBack_46 ?_
        refine qi_iload_n hC 2 rfl rfl dX0_comesBack_47 ?_
        obtain ⟨q4, hq4, hf⟩ := Option.bind_eq_some_iff.mp hf
        refine qi_callVv hC (as := [.int v1]) (c_X0_laysDown _ _ hi0 _ _ _ hq4) kl_X0_132 hi0.1 kc_X0_laysDown rfl rfl (by decide) (by decide) (Nat.le_of_ble_eq_true rfl) dX0_comesBack_48 ?_
        refine qi_sub hC [1, 2] rfl ?_
        exact t_X0_comesBack_51 hC hQ hi0 hf hK
set_option maxRecDepth 100000 in
set_option maxHeartbeats 4000000 in
theorem tn_X0_comesBack_2 {X : qaX} {l : Launch} {Y : qaY} {fin : qaM} {i0 : Nat} (hC : QC X l Y cX0_comesBack RX0 3 3) (hQ : QRv X Y fin) (hi0 : qaHou i0) {z : (qaM)} (hK : (qa_eq fin) z) : ∀ (n : Nat) (s : qaM × Int32), qa_lp (fun s => b_X0_comesBack_2 i0 s.1 s.2) n s = some z → QG X Y 3 s.1 2 [(0, .ref (Y.2.2.1 i0)), (1, .int s.2)] [] := by
  intro n
  induction n with
  | zero => intro s hf; cases hf
  | succ n ih =>
    intro s hf
    obtain ⟨y, hy, hf⟩ := qa_lp_e hf
    refine t_X0_comesBack_2 hC hQ hi0 hy ?_
    rcases hf with ⟨s', rfl, hf⟩ | rfl
    · exact ih s' hf
    · exact hK
set_option maxRecDepth 100000 in
set_option maxHeartbeats 4000000 in
theorem tl_X0_comesBack_2 {X : qaX} {l : Launch} {Y : qaY} {fin : qaM} {i0 : Nat} (hC : QC X l Y cX0_comesBack RX0 3 3) (hQ : QRv X Y fin) (hi0 : qaHou i0) {m : qaM} {v1 : Int32} {z : (qaM)} (hf : lp_X0_comesBack_2 i0 m v1 = some z) (hK : (qa_eq fin) z) : QG X Y 3 m 2 [(0, .ref (Y.2.2.1 i0)), (1, .int v1)] [] :=
  tn_X0_comesBack_2 hC hQ hi0 hK qa_F (m, v1) hf
set_option maxRecDepth 100000 in
set_option maxHeartbeats 4000000 in
theorem c_X0_comesBack (l : Launch) (Y : qaY) {i0 : Nat} (hi0 : qaHou i0) (m : qaM) (q : qaM) (hf : f_X0_comesBack i0 m = some q) : qaMv l Y yX0_comesBack cX0_comesBack 3 3 [.ref (Y.2.2.1 i0)] m q := by
  refine qa_entv (by decide +kernel) (Nat.le_of_ble_eq_true rfl) fun X hC hQ => ?_
  have hK : qa_eq q q := rfl
  unfold f_X0_comesBack at hf
  refine qi_iconst hC dX0_comesBack_0 kn_iconst_0 ?_
  refine qi_istore_n hC rfl (by decide) rfl dX0_comesBack_1 ?_
  refine qi_sub hC [1, 0] rfl ?_
  exact tl_X0_comesBack_2 hC hQ hi0 hf hK
set_option maxRecDepth 100000 in
set_option maxHeartbeats 4000000 in
theorem t_X0_dropsYellow_53 {X : qaX} {l : Launch} {Y : qaY} {fin : qaM} {i0 : Nat} (hC : QC X l Y cX0_dropsYellow RX0 2 2) (hQ : QRv X Y fin) (hi0 : qaHou i0) {m : qaM} {v1 : Int32} {z : ((qaM × Int32) ⊕ (qaM))} (hf : b_X0_dropsYellow_53 i0 m v1 = some z) (hK : (qa_K (fun s => QG X Y 2 s.1 10 [(0, .ref (Y.2.2.1 i0)), (1, .int s.2)] []) (qa_eq fin)) z) : QG X Y 2 m 53 [(0, .ref (Y.2.2.1 i0)), (1, .int v1)] [] := by
  unfold b_X0_dropsYellow_53 at hf
  obtain ⟨x4, ex4, hf⟩ := qa_lt_e hf
  refine qi_iinc hC (n := -1) (v := x4) 1 rfl ((congrArg (fun q => v1 + q) kn_iconst_m1).trans ex4.symm) (by decide) rfl dX0_dropsYellow_53 ?_
  refine qi_goto (tgt := 10) hC (by decide) dX0_dropsYellow_56 ?_
  obtain rfl := Option.some.inj hf
  refine qi_sub hC [1, 0] rfl ?_
  exact hK
set_option maxRecDepth 100000 in
set_option maxHeartbeats 4000000 in
theorem t_X0_dropsYellow_10 {X : qaX} {l : Launch} {Y : qaY} {fin : qaM} {i0 : Nat} (hC : QC X l Y cX0_dropsYellow RX0 2 2) (hQ : QRv X Y fin) (hi0 : qaHou i0) {m : qaM} {v1 : Int32} {z : ((qaM × Int32) ⊕ (qaM))} (hf : b_X0_dropsYellow_10 i0 m v1 = some z) (hK : (qa_K (fun s => QG X Y 2 s.1 10 [(0, .ref (Y.2.2.1 i0)), (1, .int s.2)] []) (qa_eq fin)) z) : QG X Y 2 m 10 [(0, .ref (Y.2.2.1 i0)), (1, .int v1)] [] := by
  unfold b_X0_dropsYellow_10 at hf
  refine qi_iload_n hC 1 rfl rfl dX0_dropsYellow_10 ?_
  refine qi_if_lt (tgt := 59) hC (by decide) dX0_dropsYellow_11 (fun h => ?_) (fun h => ?_)
  · replace hf := qa_if_t h hf
    obtain ⟨z, rfl, hg⟩ := qa_inr_e hf; have hf := hg
    obtain rfl := Option.some.inj hf
    exact qi_vret hC hQ hK dX0_dropsYellow_59
  · replace hf := qa_if_f h hf
    refine qi_aload_n hC 0 rfl rfl dX0_dropsYellow_14 ?_
    refine qi_getr hC kf_X0_12 hi0.1 rfl dX0_dropsYellow_15 ?_
    refine qi_aload_n hC 0 rfl rfl dX0_dropsYellow_18 ?_
    refine qi_getr hC kf_X0_21 hi0.1 rfl dX0_dropsYellow_19 ?_
    refine qi_iload_n hC 1 rfl rfl dX0_dropsYellow_22 ?_
    obtain ⟨q2, hq2, hf⟩ := Option.bind_eq_some_iff.mp hf
    refine qi_callVi hC (as := [.int v1]) (c_X2_at _ _ hi0.2.2.1 _ _ _ hq2) kl_X0_84 hi0.2.2.1.1 kc_X2_at rfl rfl (by decide) (by decide) (Nat.le_of_ble_eq_true rfl) dX0_dropsYellow_23 ?_
    refine qi_iconst hC dX0_dropsYellow_26 kn_iconst_3 ?_
    obtain ⟨q3, hq3, hf⟩ := Option.bind_eq_some_iff.mp hf
    refine qi_callVi hC (as := [.int q2, .int (3 : Int32)]) (c_X1_fact _ _ hi0.2.1 _ _ _ _ hq3) kl_X0_65 hi0.2.1.1 kc_X1_fact rfl rfl (by decide) (by decide) (Nat.le_of_ble_eq_true rfl) dX0_dropsYellow_27 ?_
    refine qi_bipush hC dX0_dropsYellow_30 kn_bipush_99 ?_
    refine qi_icmp_ne (tgt := 53) hC (by decide) dX0_dropsYellow_32 (fun h => ?_) (fun h => ?_)
    · replace hf := qa_if_f h hf
      exact t_X0_dropsYellow_53 hC hQ hi0 hf hK
    · replace hf := qa_if_t h hf
      refine qi_aload_n hC 0 rfl rfl dX0_dropsYellow_35 ?_
      refine qi_getr hC kf_X0_12 hi0.1 rfl dX0_dropsYellow_36 ?_
      refine qi_aload_n hC 0 rfl rfl dX0_dropsYellow_39 ?_
      refine qi_getr hC kf_X0_21 hi0.1 rfl dX0_dropsYellow_40 ?_
      refine qi_iload_n hC 1 rfl rfl dX0_dropsYellow_43 ?_
      obtain ⟨q5, hq5, hf⟩ := Option.bind_eq_some_iff.mp hf
      refine qi_callVi hC (as := [.int v1]) (c_X2_removesAt _ _ hi0.2.2.1 _ _ _ hq5) kl_X0_91 hi0.2.2.1.1 kc_X2_removesAt rfl rfl (by decide) (by decide) (Nat.le_of_ble_eq_true rfl) dX0_dropsYellow_44 ?_
      refine qi_bipush hC dX0_dropsYellow_47 kn_bipush_6 ?_
      refine qi_iconst hC dX0_dropsYellow_49 kn_iconst_m1 ?_
      obtain ⟨q6, hq6, hf⟩ := Option.bind_eq_some_iff.mp hf
      refine qi_callVv hC (as := [.int q5.1, .int (6 : Int32), .int (-1 : Int32)]) (c_X1_notes _ _ hi0.2.1 _ _ _ _ _ hq6) kl_X0_73 hi0.2.1.1 kc_X1_notes rfl rfl (by decide) (by decide) (Nat.le_of_ble_eq_true rfl) dX0_dropsYellow_50 ?_
      exact t_X0_dropsYellow_53 hC hQ hi0 hf hK
set_option maxRecDepth 100000 in
set_option maxHeartbeats 4000000 in
theorem tn_X0_dropsYellow_10 {X : qaX} {l : Launch} {Y : qaY} {fin : qaM} {i0 : Nat} (hC : QC X l Y cX0_dropsYellow RX0 2 2) (hQ : QRv X Y fin) (hi0 : qaHou i0) {z : (qaM)} (hK : (qa_eq fin) z) : ∀ (n : Nat) (s : qaM × Int32), qa_lp (fun s => b_X0_dropsYellow_10 i0 s.1 s.2) n s = some z → QG X Y 2 s.1 10 [(0, .ref (Y.2.2.1 i0)), (1, .int s.2)] [] := by
  intro n
  induction n with
  | zero => intro s hf; cases hf
  | succ n ih =>
    intro s hf
    obtain ⟨y, hy, hf⟩ := qa_lp_e hf
    refine t_X0_dropsYellow_10 hC hQ hi0 hy ?_
    rcases hf with ⟨s', rfl, hf⟩ | rfl
    · exact ih s' hf
    · exact hK
set_option maxRecDepth 100000 in
set_option maxHeartbeats 4000000 in
theorem tl_X0_dropsYellow_10 {X : qaX} {l : Launch} {Y : qaY} {fin : qaM} {i0 : Nat} (hC : QC X l Y cX0_dropsYellow RX0 2 2) (hQ : QRv X Y fin) (hi0 : qaHou i0) {m : qaM} {v1 : Int32} {z : (qaM)} (hf : lp_X0_dropsYellow_10 i0 m v1 = some z) (hK : (qa_eq fin) z) : QG X Y 2 m 10 [(0, .ref (Y.2.2.1 i0)), (1, .int v1)] [] :=
  tn_X0_dropsYellow_10 hC hQ hi0 hK qa_F (m, v1) hf
set_option maxRecDepth 100000 in
set_option maxHeartbeats 4000000 in
theorem c_X0_dropsYellow (l : Launch) (Y : qaY) {i0 : Nat} (hi0 : qaHou i0) (m : qaM) (q : qaM) (hf : f_X0_dropsYellow i0 m = some q) : qaMv l Y yX0_dropsYellow cX0_dropsYellow 2 2 [.ref (Y.2.2.1 i0)] m q := by
  refine qa_entv (by decide +kernel) (Nat.le_of_ble_eq_true rfl) fun X hC hQ => ?_
  have hK : qa_eq q q := rfl
  unfold f_X0_dropsYellow at hf
  refine qi_aload_n hC 0 rfl rfl dX0_dropsYellow_0 ?_
  refine qi_getr hC kf_X0_21 hi0.1 rfl dX0_dropsYellow_1 ?_
  refine qi_geti hC kf_X0_77 hi0.2.2.1.1 rfl dX0_dropsYellow_4 ?_
  refine qi_iconst hC dX0_dropsYellow_7 kn_iconst_1 ?_
  refine qi_isub hC dX0_dropsYellow_8 ?_
  obtain ⟨x1, ex1, hf⟩ := qa_lt_e hf
  refine qi_nmi hC ex1 ?_
  refine qi_istore_n hC rfl (by decide) rfl dX0_dropsYellow_9 ?_
  refine qi_sub hC [1, 0] rfl ?_
  exact tl_X0_dropsYellow_10 hC hQ hi0 hf hK
set_option maxRecDepth 100000 in
set_option maxHeartbeats 4000000 in
theorem c_X0_tellsOf (l : Launch) (Y : qaY) {i0 : Nat} (hi0 : qaHou i0) (m : qaM) (v1 : Int32) (q : qaM) (hf : f_X0_tellsOf i0 m v1 = some q) : qaMv l Y yX0_tellsOf cX0_tellsOf 2 2 [.ref (Y.2.2.1 i0), .int v1] m q := by
  refine qa_entv (by decide +kernel) (Nat.le_of_ble_eq_true rfl) fun X hC hQ => ?_
  have hK : qa_eq q q := rfl
  unfold f_X0_tellsOf at hf
  refine qi_aload_n hC 0 rfl rfl dX0_tellsOf_0 ?_
  refine qi_getr hC kf_X0_33 hi0.1 rfl dX0_tellsOf_1 ?_
  refine qi_aload_n hC 0 rfl rfl dX0_tellsOf_4 ?_
  refine qi_getr hC kf_X0_12 hi0.1 rfl dX0_tellsOf_5 ?_
  refine qi_iload_n hC 1 rfl rfl dX0_tellsOf_8 ?_
  refine qi_iconst hC dX0_tellsOf_9 kn_iconst_2 ?_
  obtain ⟨q1, hq1, hf⟩ := Option.bind_eq_some_iff.mp hf
  refine qi_callVi hC (as := [.int v1, .int (2 : Int32)]) (c_X1_fact _ _ hi0.2.1 _ _ _ _ hq1) kl_X0_65 hi0.2.1.1 kc_X1_fact rfl rfl (by decide) (by decide) (Nat.le_of_ble_eq_true rfl) dX0_tellsOf_10 ?_
  refine qi_aload_n hC 0 rfl rfl dX0_tellsOf_13 ?_
  refine qi_getr hC kf_X0_12 hi0.1 rfl dX0_tellsOf_14 ?_
  refine qi_iload_n hC 1 rfl rfl dX0_tellsOf_17 ?_
  refine qi_iconst hC dX0_tellsOf_18 kn_iconst_4 ?_
  obtain ⟨q2, hq2, hf⟩ := Option.bind_eq_some_iff.mp hf
  refine qi_callVi hC (as := [.int v1, .int (4 : Int32)]) (c_X1_fact _ _ hi0.2.1 _ _ _ _ hq2) kl_X0_65 hi0.2.1.1 kc_X1_fact rfl rfl (by decide) (by decide) (Nat.le_of_ble_eq_true rfl) dX0_tellsOf_19 ?_
  refine qi_aload_n hC 0 rfl rfl dX0_tellsOf_22 ?_
  refine qi_getr hC kf_X0_12 hi0.1 rfl dX0_tellsOf_23 ?_
  refine qi_iload_n hC 1 rfl rfl dX0_tellsOf_26 ?_
  refine qi_iconst hC dX0_tellsOf_27 kn_iconst_1 ?_
  obtain ⟨q3, hq3, hf⟩ := Option.bind_eq_some_iff.mp hf
  refine qi_callVi hC (as := [.int v1, .int (1 : Int32)]) (c_X1_fact _ _ hi0.2.1 _ _ _ _ hq3) kl_X0_65 hi0.2.1.1 kc_X1_fact rfl rfl (by decide) (by decide) (Nat.le_of_ble_eq_true rfl) dX0_tellsOf_28 ?_
  refine qi_aload_n hC 0 rfl rfl dX0_tellsOf_31 ?_
  refine qi_getr hC kf_X0_12 hi0.1 rfl dX0_tellsOf_32 ?_
  refine qi_iload_n hC 1 rfl rfl dX0_tellsOf_35 ?_
  refine qi_iconst hC dX0_tellsOf_36 kn_iconst_5 ?_
  obtain ⟨q4, hq4, hf⟩ := Option.bind_eq_some_iff.mp hf
  refine qi_callVi hC (as := [.int v1, .int (5 : Int32)]) (c_X1_fact _ _ hi0.2.1 _ _ _ _ hq4) kl_X0_65 hi0.2.1.1 kc_X1_fact rfl rfl (by decide) (by decide) (Nat.le_of_ble_eq_true rfl) dX0_tellsOf_37 ?_
  obtain ⟨q5, hq5, hf⟩ := Option.bind_eq_some_iff.mp hf
  refine qi_callVv hC (as := [.int q1, .int q2, .int q3, .int q4]) (c_X5_tellsLinen _ _ _ _ _ _ _ _ hq5) kl_X0_157 sh_1 kc_X5_tellsLinen rfl rfl (by decide) (by decide) (Nat.le_of_ble_eq_true rfl) dX0_tellsOf_40 ?_
  refine qi_aload_n hC 0 rfl rfl dX0_tellsOf_43 ?_
  refine qi_getr hC kf_X0_33 hi0.1 rfl dX0_tellsOf_44 ?_
  refine qi_aload_n hC 0 rfl rfl dX0_tellsOf_47 ?_
  refine qi_geti hC kf_X0_50 hi0.1 rfl dX0_tellsOf_48 ?_
  refine qi_aload_n hC 0 rfl rfl dX0_tellsOf_51 ?_
  refine qi_getr hC kf_X0_25 hi0.1 rfl dX0_tellsOf_52 ?_
  refine qi_iconst hC dX0_tellsOf_55 kn_iconst_0 ?_
  refine qi_iald hC tn_0 hi0.2.2.2 vi_0_4 dX0_tellsOf_56 ?_
  obtain ⟨q6, hq6, hf⟩ := Option.bind_eq_some_iff.mp hf
  refine qi_callVv hC (as := [.int (q5 i0 3), .int (q5 (i0 + 5) 0)]) (c_X5_tellsWeek _ _ _ _ _ _ hq6) kl_X0_161 sh_1 kc_X5_tellsWeek rfl rfl (by decide) (by decide) (Nat.le_of_ble_eq_true rfl) dX0_tellsOf_57 ?_
  obtain rfl := Option.some.inj hf
  exact qi_vret hC hQ hK dX0_tellsOf_60
set_option maxRecDepth 100000 in
set_option maxHeartbeats 4000000 in
theorem t_X0_washes_148 {X : qaX} {l : Launch} {Y : qaY} {fin : qaM} {i0 : Nat} (hC : QC X l Y cX0_washes RX0 4 3) (hQ : QRv X Y fin) (hi0 : qaHou i0) {m : qaM} {v1 : Int32} {v2 : Int32} {z : ((qaM × Int32) ⊕ (qaM))} (hf : b_X0_washes_148 i0 m v1 v2 = some z) (hK : (qa_K (fun s => QG X Y 4 s.1 2 [(0, .ref (Y.2.2.1 i0)), (1, .int v1), (2, .int s.2)] []) (qa_eq fin)) z) : QG X Y 4 m 148 [(0, .ref (Y.2.2.1 i0)), (1, .int v1), (2, .int v2)] [] := by
  unfold b_X0_washes_148 at hf
  obtain ⟨x1, ex1, hf⟩ := qa_lt_e hf
  refine qi_iinc hC (n := 1) (v := x1) 2 rfl ((congrArg (fun q => v2 + q) kn_iconst_1).trans ex1.symm) (by decide) rfl dX0_washes_148 ?_
  refine qi_goto (tgt := 2) hC (by decide) dX0_washes_151 ?_
  obtain rfl := Option.some.inj hf
  refine qi_sub hC [1, 2, 0] rfl ?_
  exact hK
set_option maxRecDepth 100000 in
set_option maxHeartbeats 4000000 in
theorem t_X0_washes_2 {X : qaX} {l : Launch} {Y : qaY} {fin : qaM} {i0 : Nat} (hC : QC X l Y cX0_washes RX0 4 3) (hQ : QRv X Y fin) (hi0 : qaHou i0) {m : qaM} {v1 : Int32} {v2 : Int32} {z : ((qaM × Int32) ⊕ (qaM))} (hf : b_X0_washes_2 i0 m v1 v2 = some z) (hK : (qa_K (fun s => QG X Y 4 s.1 2 [(0, .ref (Y.2.2.1 i0)), (1, .int v1), (2, .int s.2)] []) (qa_eq fin)) z) : QG X Y 4 m 2 [(0, .ref (Y.2.2.1 i0)), (1, .int v1), (2, .int v2)] [] := by
  unfold b_X0_washes_2 at hf
  refine qi_iload_n hC 2 rfl rfl dX0_washes_2 ?_
  refine qi_aload_n hC 0 rfl rfl dX0_washes_3 ?_
  refine qi_getr hC kf_X0_12 hi0.1 rfl dX0_washes_4 ?_
  refine qi_geti hC kf_X0_129 hi0.2.1.1 rfl dX0_washes_7 ?_
  refine qi_icmp_ge (tgt := 154) hC (by decide) dX0_washes_10 (fun h => ?_) (fun h => ?_)
  · replace hf := qa_if_t h hf
    obtain ⟨z, rfl, hg⟩ := qa_inr_e hf; have hf := hg
    obtain rfl := Option.some.inj hf
    exact qi_vret hC hQ hK dX0_washes_154
  · replace hf := qa_if_f h hf
    refine qi_iload_n hC 1 rfl rfl dX0_washes_13 ?_
    refine qi_iload_n hC 2 rfl rfl dX0_washes_14 ?_
    refine qi_ishr hC dX0_washes_15 ?_
    refine qi_iconst hC dX0_washes_16 kn_iconst_1 ?_
    refine qi_iand hC dX0_washes_17 ?_
    refine qi_iconst hC dX0_washes_18 kn_iconst_1 ?_
    refine qi_icmp_ne (tgt := 148) hC (by decide) dX0_washes_19 (fun h => ?_) (fun h => ?_)
    · replace hf := qa_if_f h hf
      exact t_X0_washes_148 hC hQ hi0 hf hK
    · replace hf := qa_if_t h hf
      refine qi_aload_n hC 0 rfl rfl dX0_washes_22 ?_
      refine qi_iload_n hC 2 rfl rfl dX0_washes_23 ?_
      obtain ⟨q2, hq2, hf⟩ := Option.bind_eq_some_iff.mp hf
      refine qi_callVv hC (as := [.int v2]) (c_X0_tellsOf _ _ hi0 _ _ _ hq2) kl_X0_135 hi0.1 kc_X0_tellsOf rfl rfl (by decide) (by decide) (Nat.le_of_ble_eq_true rfl) dX0_washes_24 ?_
      refine qi_aload_n hC 0 rfl rfl dX0_washes_27 ?_
      refine qi_getr hC kf_X0_12 hi0.1 rfl dX0_washes_28 ?_
      refine qi_iload_n hC 2 rfl rfl dX0_washes_31 ?_
      refine qi_aload_n hC 0 rfl rfl dX0_washes_32 ?_
      refine qi_getr hC kf_X0_33 hi0.1 rfl dX0_washes_33 ?_
      refine qi_aload_n hC 0 rfl rfl dX0_washes_36 ?_
      refine qi_geti hC kf_X0_53 hi0.1 rfl dX0_washes_37 ?_
      refine qi_iconst hC dX0_washes_40 kn_iconst_0 ?_
      obtain ⟨q3, hq3, hf⟩ := Option.bind_eq_some_iff.mp hf
      refine qi_callVi hC (as := [.int (q2 i0 4), .int (0 : Int32)]) (c_X5_says _ _ _ _ _ _ hq3) kl_X0_138 sh_1 kc_X5_says rfl rfl (by decide) (by decide) (Nat.le_of_ble_eq_true rfl) dX0_washes_41 ?_
      obtain ⟨q4, hq4, hf⟩ := Option.bind_eq_some_iff.mp hf
      refine qi_callVi hC (as := [.int v2, .int q3.1]) (c_X1_wearsBy _ _ hi0.2.1 _ _ _ _ hq4) kl_X0_151 hi0.2.1.1 kc_X1_wearsBy rfl rfl (by decide) (by decide) (Nat.le_of_ble_eq_true rfl) dX0_washes_44 ?_
      refine qi_istore_n hC rfl (by decide) rfl dX0_washes_47 ?_
      refine qi_aload_n hC 1 rfl rfl dX0_washes_48 ?_
      refine qi_getr hC kf_X0_12 hi0.1 rfl dX0_washes_49 ?_
      refine qi_iload_n hC 3 rfl rfl dX0_washes_52 ?_
      refine qi_iconst hC dX0_washes_53 kn_iconst_2 ?_
      refine qi_sipush hC dX0_washes_54 kn_sipush_999 ?_
      refine qi_aload_n hC 1 rfl rfl dX0_washes_57 ?_
      refine qi_getr hC kf_X0_12 hi0.1 rfl dX0_washes_58 ?_
      refine qi_iload_n hC 3 rfl rfl dX0_washes_61 ?_
      refine qi_iconst hC dX0_washes_62 kn_iconst_2 ?_
      obtain ⟨q5, hq5, hf⟩ := Option.bind_eq_some_iff.mp hf
      refine qi_callVi hC (as := [.int v2, .int (2 : Int32)]) (c_X1_fact _ _ hi0.2.1 _ _ _ _ hq5) kl_X0_65 hi0.2.1.1 kc_X1_fact rfl rfl (by decide) (by decide) (Nat.le_of_ble_eq_true rfl) dX0_washes_63 ?_
      refine qi_iload_n hC 0 rfl rfl dX0_washes_66 ?_
      refine qi_iadd hC dX0_washes_67 ?_
      refine qi_mmin hC km_X0_146 ka_mins kz_J9 ka_minc (by decide) (Nat.le_of_ble_eq_true rfl) dX0_washes_68 ?_
      obtain ⟨q6, hq6, hf⟩ := Option.bind_eq_some_iff.mp hf
      refine qi_callVv hC (as := [.int v2, .int (2 : Int32), .int (qa_min (999 : Int32) (q5 + q4))]) (c_X1_notes _ _ hi0.2.1 _ _ _ _ _ hq6) kl_X0_73 hi0.2.1.1 kc_X1_notes rfl rfl (by decide) (by decide) (Nat.le_of_ble_eq_true rfl) dX0_washes_71 ?_
      refine qi_aload_n hC 1 rfl rfl dX0_washes_74 ?_
      refine qi_getr hC kf_X0_12 hi0.1 rfl dX0_washes_75 ?_
      refine qi_iload_n hC 3 rfl rfl dX0_washes_78 ?_
      refine qi_iconst hC dX0_washes_79 kn_iconst_4 ?_
      refine qi_iconst hC dX0_washes_80 kn_iconst_0 ?_
      obtain ⟨q7, hq7, hf⟩ := Option.bind_eq_some_iff.mp hf
      refine qi_callVv hC (as := [.int v2, .int (4 : Int32), .int (0 : Int32)]) (c_X1_notes _ _ hi0.2.1 _ _ _ _ _ hq7) kl_X0_73 hi0.2.1.1 kc_X1_notes rfl rfl (by decide) (by decide) (Nat.le_of_ble_eq_true rfl) dX0_washes_81 ?_
      refine qi_aload_n hC 1 rfl rfl dX0_washes_84 ?_
      refine qi_getr hC kf_X0_12 hi0.1 rfl dX0_washes_85 ?_
      refine qi_iload_n hC 3 rfl rfl dX0_washes_88 ?_
      refine qi_bipush hC dX0_washes_89 kn_bipush_6 ?_
      refine qi_aload_n hC 1 rfl rfl dX0_washes_91 ?_
      refine qi_getr hC kf_X0_25 hi0.1 rfl dX0_washes_92 ?_
      refine qi_iconst hC dX0_washes_95 kn_iconst_1 ?_
      refine qi_iald hC tn_1 hi0.2.2.2 vi_1_4 dX0_washes_96 ?_
      obtain ⟨q8, hq8, hf⟩ := Option.bind_eq_some_iff.mp hf
      refine qi_callVv hC (as := [.int v2, .int (6 : Int32), .int (q7 (i0 + 5) 1)]) (c_X1_notes _ _ hi0.2.1 _ _ _ _ _ hq8) kl_X0_73 hi0.2.1.1 kc_X1_notes rfl rfl (by decide) (by decide) (Nat.le_of_ble_eq_true rfl) dX0_washes_97 ?_
      refine qi_aload_n hC 1 rfl rfl dX0_washes_100 ?_
      refine qi_getr hC kf_X0_12 hi0.1 rfl dX0_washes_101 ?_
      refine qi_iload_n hC 3 rfl rfl dX0_washes_104 ?_
      refine qi_iconst hC dX0_washes_105 kn_iconst_2 ?_
      obtain ⟨q9, hq9, hf⟩ := Option.bind_eq_some_iff.mp hf
      refine qi_callVi hC (as := [.int v2, .int (2 : Int32)]) (c_X1_fact _ _ hi0.2.1 _ _ _ _ hq9) kl_X0_65 hi0.2.1.1 kc_X1_fact rfl rfl (by decide) (by decide) (Nat.le_of_ble_eq_true rfl) dX0_washes_106 ?_
      refine qi_aload_n hC 1 rfl rfl dX0_washes_109 ?_
      refine qi_getr hC kf_X0_12 hi0.1 rfl dX0_washes_110 ?_
      refine qi_iload_n hC 3 rfl rfl dX0_washes_113 ?_
      obtain ⟨q10, hq10, hf⟩ := Option.bind_eq_some_iff.mp hf
      refine qi_callVi hC (as := [.int v2]) (c_X1_lasts _ _ hi0.2.1 _ _ _ hq10) kl_X0_154 hi0.2.1.1 kc_X1_lasts rfl rfl (by decide) (by decide) (Nat.le_of_ble_eq_true rfl) dX0_washes_114 ?_
      refine qi_icmp_lt (tgt := 134) hC (by decide) dX0_washes_117 (fun h => ?_) (fun h => ?_)
      · replace hf := qa_if_t h hf
        refine qi_aload_n hC 1 rfl rfl dX0_washes_134 ?_
        refine qi_getr hC kf_X0_25 hi0.1 rfl dX0_washes_135 ?_
        refine qi_iconst hC dX0_washes_138 kn_iconst_1 ?_
        refine qi_iald hC tn_1 hi0.2.2.2 vi_1_4 dX0_washes_139 ?_
        refine qi_if_ne (tgt := 148) hC (by decide) dX0_washes_140 (fun h => ?_) (fun h => ?_)
        · replace hf := qa_if_f h hf
          refine qi_sub hC [1, 2, 3] rfl ?_
          exact t_X0_washes_148 hC hQ hi0 hf hK
        · replace hf := qa_if_t h hf
          refine qi_aload_n hC 1 rfl rfl dX0_washes_143 ?_
          refine qi_iload_n hC 3 rfl rfl dX0_washes_144 ?_
          obtain ⟨q11, hq11, hf⟩ := Option.bind_eq_some_iff.mp hf
          refine qi_callVv hC (as := [.int v2]) (c_X0_laysDown _ _ hi0 _ _ _ hq11) kl_X0_132 hi0.1 kc_X0_laysDown rfl rfl (by decide) (by decide) (Nat.le_of_ble_eq_true rfl) dX0_washes_145 ?_
          refine qi_sub hC [1, 2, 3] rfl ?_
          exact t_X0_washes_148 hC hQ hi0 hf hK
      · replace hf := qa_if_f h hf
        refine qi_aload_n hC 1 rfl rfl dX0_washes_120 ?_
        refine qi_getr hC kf_X0_12 hi0.1 rfl dX0_washes_121 ?_
        refine qi_iload_n hC 3 rfl rfl dX0_washes_124 ?_
        refine qi_bipush hC dX0_washes_125 kn_bipush_6 ?_
        refine qi_iconst hC dX0_washes_127 kn_iconst_m1 ?_
        obtain ⟨q12, hq12, hf⟩ := Option.bind_eq_some_iff.mp hf
        refine qi_callVv hC (as := [.int v2, .int (6 : Int32), .int (-1 : Int32)]) (c_X1_notes _ _ hi0.2.1 _ _ _ _ _ hq12) kl_X0_73 hi0.2.1.1 kc_X1_notes rfl rfl (by decide) (by decide) (Nat.le_of_ble_eq_true rfl) dX0_washes_128 ?_
        refine qi_goto (tgt := 148) hC (by decide) dX0_washes_131 ?_
        refine qi_sub hC [1, 2, 3] rfl ?_
        exact t_X0_washes_148 hC hQ hi0 hf hK
set_option maxRecDepth 100000 in
set_option maxHeartbeats 4000000 in
theorem tn_X0_washes_2 {X : qaX} {l : Launch} {Y : qaY} {fin : qaM} {i0 : Nat} (hC : QC X l Y cX0_washes RX0 4 3) (hQ : QRv X Y fin) (hi0 : qaHou i0) {v1 : Int32} {z : (qaM)} (hK : (qa_eq fin) z) : ∀ (n : Nat) (s : qaM × Int32), qa_lp (fun s => b_X0_washes_2 i0 s.1 v1 s.2) n s = some z → QG X Y 4 s.1 2 [(0, .ref (Y.2.2.1 i0)), (1, .int v1), (2, .int s.2)] [] := by
  intro n
  induction n with
  | zero => intro s hf; cases hf
  | succ n ih =>
    intro s hf
    obtain ⟨y, hy, hf⟩ := qa_lp_e hf
    refine t_X0_washes_2 hC hQ hi0 hy ?_
    rcases hf with ⟨s', rfl, hf⟩ | rfl
    · exact ih s' hf
    · exact hK
set_option maxRecDepth 100000 in
set_option maxHeartbeats 4000000 in
theorem tl_X0_washes_2 {X : qaX} {l : Launch} {Y : qaY} {fin : qaM} {i0 : Nat} (hC : QC X l Y cX0_washes RX0 4 3) (hQ : QRv X Y fin) (hi0 : qaHou i0) {m : qaM} {v1 : Int32} {v2 : Int32} {z : (qaM)} (hf : lp_X0_washes_2 i0 m v1 v2 = some z) (hK : (qa_eq fin) z) : QG X Y 4 m 2 [(0, .ref (Y.2.2.1 i0)), (1, .int v1), (2, .int v2)] [] :=
  tn_X0_washes_2 hC hQ hi0 hK qa_F (m, v2) hf
set_option maxRecDepth 100000 in
set_option maxHeartbeats 4000000 in
theorem c_X0_washes (l : Launch) (Y : qaY) {i0 : Nat} (hi0 : qaHou i0) (m : qaM) (v1 : Int32) (q : qaM) (hf : f_X0_washes i0 m v1 = some q) : qaMv l Y yX0_washes cX0_washes 4 3 [.ref (Y.2.2.1 i0), .int v1] m q := by
  refine qa_entv (by decide +kernel) (Nat.le_of_ble_eq_true rfl) fun X hC hQ => ?_
  have hK : qa_eq q q := rfl
  unfold f_X0_washes at hf
  refine qi_iconst hC dX0_washes_0 kn_iconst_0 ?_
  refine qi_istore_n hC rfl (by decide) rfl dX0_washes_1 ?_
  refine qi_sub hC [1, 2, 0] rfl ?_
  exact tl_X0_washes_2 hC hQ hi0 hf hK
set_option maxRecDepth 100000 in
set_option maxHeartbeats 4000000 in
theorem t_X0_yellows_2 {X : qaX} {l : Launch} {Y : qaY} {fin : qaM} {i0 : Nat} (hC : QC X l Y cX0_yellows RX0 4 3) (hQ : QRv X Y fin) (hi0 : qaHou i0) {m : qaM} {v1 : Int32} {z : ((qaM × Int32) ⊕ (qaM))} (hf : b_X0_yellows_2 i0 m v1 = some z) (hK : (qa_K (fun s => QG X Y 4 s.1 2 [(0, .ref (Y.2.2.1 i0)), (1, .int s.2)] []) (qa_eq fin)) z) : QG X Y 4 m 2 [(0, .ref (Y.2.2.1 i0)), (1, .int v1)] [] := by
  unfold b_X0_yellows_2 at hf
  refine qi_iload_n hC 1 rfl rfl dX0_yellows_2 ?_
  refine qi_aload_n hC 0 rfl rfl dX0_yellows_3 ?_
  refine qi_getr hC kf_X0_21 hi0.1 rfl dX0_yellows_4 ?_
  refine qi_geti hC kf_X0_77 hi0.2.2.1.1 rfl dX0_yellows_7 ?_
  refine qi_icmp_ge (tgt := 105) hC (by decide) dX0_yellows_10 (fun h => ?_) (fun h => ?_)
  · replace hf := qa_if_t h hf
    obtain ⟨z, rfl, hg⟩ := qa_inr_e hf; have hf := hg
    obtain rfl := Option.some.inj hf
    exact qi_vret hC hQ hK dX0_yellows_105
  · replace hf := qa_if_f h hf
    refine qi_aload_n hC 0 rfl rfl dX0_yellows_13 ?_
    refine qi_getr hC kf_X0_21 hi0.1 rfl dX0_yellows_14 ?_
    refine qi_iload_n hC 1 rfl rfl dX0_yellows_17 ?_
    obtain ⟨q1, hq1, hf⟩ := Option.bind_eq_some_iff.mp hf
    refine qi_callVi hC (as := [.int v1]) (c_X2_at _ _ hi0.2.2.1 _ _ _ hq1) kl_X0_84 hi0.2.2.1.1 kc_X2_at rfl rfl (by decide) (by decide) (Nat.le_of_ble_eq_true rfl) dX0_yellows_18 ?_
    refine qi_istore_n hC rfl (by decide) rfl dX0_yellows_21 ?_
    refine qi_aload_n hC 1 rfl rfl dX0_yellows_22 ?_
    refine qi_iload_n hC 0 rfl rfl dX0_yellows_23 ?_
    obtain ⟨q2, hq2, hf⟩ := Option.bind_eq_some_iff.mp hf
    refine qi_callVv hC (as := [.int q1]) (c_X0_tellsOf _ _ hi0 _ _ _ hq2) kl_X0_135 hi0.1 kc_X0_tellsOf rfl rfl (by decide) (by decide) (Nat.le_of_ble_eq_true rfl) dX0_yellows_24 ?_
    refine qi_aload_n hC 1 rfl rfl dX0_yellows_27 ?_
    refine qi_getr hC kf_X0_12 hi0.1 rfl dX0_yellows_28 ?_
    refine qi_iload_n hC 0 rfl rfl dX0_yellows_31 ?_
    refine qi_aload_n hC 1 rfl rfl dX0_yellows_32 ?_
    refine qi_getr hC kf_X0_33 hi0.1 rfl dX0_yellows_33 ?_
    refine qi_aload_n hC 1 rfl rfl dX0_yellows_36 ?_
    refine qi_geti hC kf_X0_53 hi0.1 rfl dX0_yellows_37 ?_
    refine qi_iconst hC dX0_yellows_40 kn_iconst_1 ?_
    obtain ⟨q3, hq3, hf⟩ := Option.bind_eq_some_iff.mp hf
    refine qi_callVi hC (as := [.int (q2 i0 4), .int (1 : Int32)]) (c_X5_says _ _ _ _ _ _ hq3) kl_X0_138 sh_1 kc_X5_says rfl rfl (by decide) (by decide) (Nat.le_of_ble_eq_true rfl) dX0_yellows_41 ?_
    obtain ⟨q4, hq4, hf⟩ := Option.bind_eq_some_iff.mp hf
    refine qi_callVi hC (as := [.int q1, .int q3.1]) (c_X1_yellowsBy _ _ hi0.2.1 _ _ _ _ hq4) kl_X0_143 hi0.2.1.1 kc_X1_yellowsBy rfl rfl (by decide) (by decide) (Nat.le_of_ble_eq_true rfl) dX0_yellows_44 ?_
    refine qi_istore_n hC rfl (by decide) rfl dX0_yellows_47 ?_
    refine qi_aload_n hC 2 rfl rfl dX0_yellows_48 ?_
    refine qi_getr hC kf_X0_12 hi0.1 rfl dX0_yellows_49 ?_
    refine qi_iload_n hC 1 rfl rfl dX0_yellows_52 ?_
    refine qi_iconst hC dX0_yellows_53 kn_iconst_3 ?_
    refine qi_bipush hC dX0_yellows_54 kn_bipush_99 ?_
    refine qi_aload_n hC 2 rfl rfl dX0_yellows_56 ?_
    refine qi_getr hC kf_X0_12 hi0.1 rfl dX0_yellows_57 ?_
    refine qi_iload_n hC 1 rfl rfl dX0_yellows_60 ?_
    refine qi_iconst hC dX0_yellows_61 kn_iconst_3 ?_
    obtain ⟨q5, hq5, hf⟩ := Option.bind_eq_some_iff.mp hf
    refine qi_callVi hC (as := [.int q1, .int (3 : Int32)]) (c_X1_fact _ _ hi0.2.1 _ _ _ _ hq5) kl_X0_65 hi0.2.1.1 kc_X1_fact rfl rfl (by decide) (by decide) (Nat.le_of_ble_eq_true rfl) dX0_yellows_62 ?_
    refine qi_iload_n hC 0 rfl rfl dX0_yellows_65 ?_
    refine qi_iadd hC dX0_yellows_66 ?_
    refine qi_mmin hC km_X0_146 ka_mins kz_J9 ka_minc (by decide) (Nat.le_of_ble_eq_true rfl) dX0_yellows_67 ?_
    obtain ⟨q6, hq6, hf⟩ := Option.bind_eq_some_iff.mp hf
    refine qi_callVv hC (as := [.int q1, .int (3 : Int32), .int (qa_min (99 : Int32) (q5 + q4))]) (c_X1_notes _ _ hi0.2.1 _ _ _ _ _ hq6) kl_X0_73 hi0.2.1.1 kc_X1_notes rfl rfl (by decide) (by decide) (Nat.le_of_ble_eq_true rfl) dX0_yellows_70 ?_
    refine qi_aload_n hC 2 rfl rfl dX0_yellows_73 ?_
    refine qi_getr hC kf_X0_12 hi0.1 rfl dX0_yellows_74 ?_
    refine qi_iload_n hC 1 rfl rfl dX0_yellows_77 ?_
    refine qi_iconst hC dX0_yellows_78 kn_iconst_4 ?_
    refine qi_sipush hC dX0_yellows_79 kn_sipush_999 ?_
    refine qi_aload_n hC 2 rfl rfl dX0_yellows_82 ?_
    refine qi_getr hC kf_X0_12 hi0.1 rfl dX0_yellows_83 ?_
    refine qi_iload_n hC 1 rfl rfl dX0_yellows_86 ?_
    refine qi_iconst hC dX0_yellows_87 kn_iconst_4 ?_
    obtain ⟨q7, hq7, hf⟩ := Option.bind_eq_some_iff.mp hf
    refine qi_callVi hC (as := [.int q1, .int (4 : Int32)]) (c_X1_fact _ _ hi0.2.1 _ _ _ _ hq7) kl_X0_65 hi0.2.1.1 kc_X1_fact rfl rfl (by decide) (by decide) (Nat.le_of_ble_eq_true rfl) dX0_yellows_88 ?_
    refine qi_iconst hC dX0_yellows_91 kn_iconst_1 ?_
    refine qi_iadd hC dX0_yellows_92 ?_
    refine qi_mmin hC km_X0_146 ka_mins kz_J9 ka_minc (by decide) (Nat.le_of_ble_eq_true rfl) dX0_yellows_93 ?_
    obtain ⟨q8, hq8, hf⟩ := Option.bind_eq_some_iff.mp hf
    refine qi_callVv hC (as := [.int q1, .int (4 : Int32), .int (qa_min (999 : Int32) (q7 + (1 : Int32)))]) (c_X1_notes _ _ hi0.2.1 _ _ _ _ _ hq8) kl_X0_73 hi0.2.1.1 kc_X1_notes rfl rfl (by decide) (by decide) (Nat.le_of_ble_eq_true rfl) dX0_yellows_96 ?_
    obtain ⟨x9, ex9, hf⟩ := qa_lt_e hf
    refine qi_iinc hC (n := 1) (v := x9) 3 rfl ((congrArg (fun q => v1 + q) kn_iconst_1).trans ex9.symm) (by decide) rfl dX0_yellows_99 ?_
    refine qi_goto (tgt := 2) hC (by decide) dX0_yellows_102 ?_
    obtain rfl := Option.some.inj hf
    refine qi_sub hC [3, 0] rfl ?_
    exact hK
set_option maxRecDepth 100000 in
set_option maxHeartbeats 4000000 in
theorem tn_X0_yellows_2 {X : qaX} {l : Launch} {Y : qaY} {fin : qaM} {i0 : Nat} (hC : QC X l Y cX0_yellows RX0 4 3) (hQ : QRv X Y fin) (hi0 : qaHou i0) {z : (qaM)} (hK : (qa_eq fin) z) : ∀ (n : Nat) (s : qaM × Int32), qa_lp (fun s => b_X0_yellows_2 i0 s.1 s.2) n s = some z → QG X Y 4 s.1 2 [(0, .ref (Y.2.2.1 i0)), (1, .int s.2)] [] := by
  intro n
  induction n with
  | zero => intro s hf; cases hf
  | succ n ih =>
    intro s hf
    obtain ⟨y, hy, hf⟩ := qa_lp_e hf
    refine t_X0_yellows_2 hC hQ hi0 hy ?_
    rcases hf with ⟨s', rfl, hf⟩ | rfl
    · exact ih s' hf
    · exact hK
set_option maxRecDepth 100000 in
set_option maxHeartbeats 4000000 in
theorem tl_X0_yellows_2 {X : qaX} {l : Launch} {Y : qaY} {fin : qaM} {i0 : Nat} (hC : QC X l Y cX0_yellows RX0 4 3) (hQ : QRv X Y fin) (hi0 : qaHou i0) {m : qaM} {v1 : Int32} {z : (qaM)} (hf : lp_X0_yellows_2 i0 m v1 = some z) (hK : (qa_eq fin) z) : QG X Y 4 m 2 [(0, .ref (Y.2.2.1 i0)), (1, .int v1)] [] :=
  tn_X0_yellows_2 hC hQ hi0 hK qa_F (m, v1) hf
set_option maxRecDepth 100000 in
set_option maxHeartbeats 4000000 in
theorem c_X0_yellows (l : Launch) (Y : qaY) {i0 : Nat} (hi0 : qaHou i0) (m : qaM) (q : qaM) (hf : f_X0_yellows i0 m = some q) : qaMv l Y yX0_yellows cX0_yellows 4 3 [.ref (Y.2.2.1 i0)] m q := by
  refine qa_entv (by decide +kernel) (Nat.le_of_ble_eq_true rfl) fun X hC hQ => ?_
  have hK : qa_eq q q := rfl
  unfold f_X0_yellows at hf
  refine qi_iconst hC dX0_yellows_0 kn_iconst_0 ?_
  refine qi_istore_n hC rfl (by decide) rfl dX0_yellows_1 ?_
  refine qi_sub hC [1, 0] rfl ?_
  exact tl_X0_yellows_2 hC hQ hi0 hf hK
set_option maxRecDepth 100000 in
set_option maxHeartbeats 4000000 in
theorem t_X0_livesWeek_109 {X : qaX} {l : Launch} {Y : qaY} {fin : Int32 × qaM} {i0 : Nat} (hC : QC X l Y cX0_livesWeek RX0 8 4) (hQ : QRi X Y (some .int) fin.2 fin.1) (hi0 : qaHou i0) {m : qaM} {v4 : Int32} {v5 : Int32} {z : (Int32 × qaM)} (hf : b_X0_livesWeek_109 i0 m v4 v5 = some z) (hK : (qa_eq fin) z) : QG X Y 8 m 109 [(0, .ref (Y.2.2.1 i0)), (4, .int v4), (5, .int v5)] [] := by
  unfold b_X0_livesWeek_109 at hf
  refine qi_aload_n hC 0 rfl rfl dX0_livesWeek_109 ?_
  refine qi_dup hC rfl dX0_livesWeek_110 ?_
  refine qi_geti hC kf_X0_56 hi0.1 rfl dX0_livesWeek_111 ?_
  refine qi_iload hC 1 rfl dX0_livesWeek_114 ?_
  refine qi_iadd hC dX0_livesWeek_116 ?_
  obtain ⟨m6, em6, hf⟩ := qa_lt_e hf
  refine qi_puti hC em6 kp_X0_56 hi0.1 rfl rfl rfl dX0_livesWeek_117 ?_
  refine qi_aload_n hC 0 rfl rfl dX0_livesWeek_120 ?_
  refine qi_dup hC rfl dX0_livesWeek_121 ?_
  refine qi_geti hC kf_X0_59 hi0.1 rfl dX0_livesWeek_122 ?_
  refine qi_iload hC 2 rfl dX0_livesWeek_125 ?_
  refine qi_ior hC dX0_livesWeek_127 ?_
  obtain ⟨m7, em7, hf⟩ := qa_lt_e hf
  refine qi_puti hC em7 kp_X0_59 hi0.1 rfl rfl rfl dX0_livesWeek_128 ?_
  refine qi_aload_n hC 0 rfl rfl dX0_livesWeek_131 ?_
  refine qi_dup hC rfl dX0_livesWeek_132 ?_
  refine qi_geti hC kf_X0_62 hi0.1 rfl dX0_livesWeek_133 ?_
  refine qi_iconst hC dX0_livesWeek_136 kn_iconst_1 ?_
  refine qi_iadd hC dX0_livesWeek_137 ?_
  obtain ⟨m8, em8, hf⟩ := qa_lt_e hf
  refine qi_puti hC em8 kp_X0_62 hi0.1 rfl rfl rfl dX0_livesWeek_138 ?_
  refine qi_aload_n hC 0 rfl rfl dX0_livesWeek_141 ?_
  refine qi_dup hC rfl dX0_livesWeek_142 ?_
  refine qi_geti hC kf_X0_50 hi0.1 rfl dX0_livesWeek_143 ?_
  refine qi_iconst hC dX0_livesWeek_146 kn_iconst_1 ?_
  refine qi_iadd hC dX0_livesWeek_147 ?_
  obtain ⟨m9, em9, hf⟩ := qa_lt_e hf
  refine qi_puti hC em9 kp_X0_50 hi0.1 rfl rfl rfl dX0_livesWeek_148 ?_
  refine qi_iload hC 1 rfl dX0_livesWeek_151 ?_
  obtain rfl := Option.some.inj hf
  exact qi_ireti hC hQ hK dX0_livesWeek_153
set_option maxRecDepth 100000 in
set_option maxHeartbeats 4000000 in
theorem t_X0_livesWeek_68 {X : qaX} {l : Launch} {Y : qaY} {fin : Int32 × qaM} {i0 : Nat} (hC : QC X l Y cX0_livesWeek RX0 8 4) (hQ : QRi X Y (some .int) fin.2 fin.1) (hi0 : qaHou i0) {m : qaM} {v3 : Int32} {v4 : Int32} {v5 : Int32} {z : (Int32 × qaM)} (hf : b_X0_livesWeek_68 i0 m v3 v4 v5 = some z) (hK : (qa_eq fin) z) : QG X Y 8 m 68 [(0, .ref (Y.2.2.1 i0)), (3, .int v3), (4, .int v4), (5, .int v5)] [] := by
  unfold b_X0_livesWeek_68 at hf
  refine qi_aload_n hC 0 rfl rfl dX0_livesWeek_68 ?_
  obtain ⟨q3, hq3, hf⟩ := Option.bind_eq_some_iff.mp hf
  refine qi_callVv hC (as := []) (c_X0_yellows _ _ hi0 _ _ hq3) kl_X0_119 hi0.1 kc_X0_yellows rfl rfl (by decide) (by decide) (Nat.le_of_ble_eq_true rfl) dX0_livesWeek_69 ?_
  refine qi_aload_n hC 0 rfl rfl dX0_livesWeek_72 ?_
  refine qi_iload hC 3 rfl dX0_livesWeek_73 ?_
  obtain ⟨q4, hq4, hf⟩ := Option.bind_eq_some_iff.mp hf
  refine qi_callVv hC (as := [.int v5]) (c_X0_washes _ _ hi0 _ _ _ hq4) kl_X0_122 hi0.1 kc_X0_washes rfl rfl (by decide) (by decide) (Nat.le_of_ble_eq_true rfl) dX0_livesWeek_75 ?_
  refine qi_aload_n hC 0 rfl rfl dX0_livesWeek_78 ?_
  obtain ⟨q5, hq5, hf⟩ := Option.bind_eq_some_iff.mp hf
  refine qi_callVv hC (as := []) (c_X0_dropsYellow _ _ hi0 _ _ hq5) kl_X0_126 hi0.1 kc_X0_dropsYellow rfl rfl (by decide) (by decide) (Nat.le_of_ble_eq_true rfl) dX0_livesWeek_79 ?_
  refine qi_aload_n hC 0 rfl rfl dX0_livesWeek_82 ?_
  refine qi_geti hC kf_X0_29 hi0.1 rfl dX0_livesWeek_83 ?_
  refine qi_iconst hC dX0_livesWeek_86 kn_iconst_m1 ?_
  refine qi_icmp_ne (tgt := 109) hC (by decide) dX0_livesWeek_87 (fun h => ?_) (fun h => ?_)
  · replace hf := qa_if_f h hf
    refine qi_sub hC [0, 2, 3] rfl ?_
    exact t_X0_livesWeek_109 hC hQ hi0 hf hK
  · replace hf := qa_if_t h hf
    refine qi_aload_n hC 0 rfl rfl dX0_livesWeek_90 ?_
    refine qi_getr hC kf_X0_12 hi0.1 rfl dX0_livesWeek_91 ?_
    obtain ⟨q10, hq10, hf⟩ := Option.bind_eq_some_iff.mp hf
    refine qi_callVi hC (as := []) (c_X1_left _ _ hi0.2.1 _ _ hq10) kl_X0_109 hi0.2.1.1 kc_X1_left rfl rfl (by decide) (by decide) (Nat.le_of_ble_eq_true rfl) dX0_livesWeek_94 ?_
    refine qi_iload_n hC 1 rfl rfl dX0_livesWeek_97 ?_
    refine qi_icmp_ge (tgt := 109) hC (by decide) dX0_livesWeek_98 (fun h => ?_) (fun h => ?_)
    · replace hf := qa_if_t h hf
      refine qi_sub hC [0, 2, 3] rfl ?_
      exact t_X0_livesWeek_109 hC hQ hi0 hf hK
    · replace hf := qa_if_f h hf
      refine qi_aload_n hC 0 rfl rfl dX0_livesWeek_101 ?_
      refine qi_aload_n hC 0 rfl rfl dX0_livesWeek_102 ?_
      refine qi_geti hC kf_X0_62 hi0.1 rfl dX0_livesWeek_103 ?_
      obtain ⟨m11, em11, hf⟩ := qa_lt_e hf
      refine qi_puti hC em11 kp_X0_29 hi0.1 rfl rfl rfl dX0_livesWeek_106 ?_
      refine qi_sub hC [0, 2, 3] rfl ?_
      exact t_X0_livesWeek_109 hC hQ hi0 hf hK
set_option maxRecDepth 100000 in
set_option maxHeartbeats 4000000 in
theorem t_X0_livesWeek_62 {X : qaX} {l : Launch} {Y : qaY} {fin : Int32 × qaM} {i0 : Nat} (hC : QC X l Y cX0_livesWeek RX0 8 4) (hQ : QRi X Y (some .int) fin.2 fin.1) (hi0 : qaHou i0) {m : qaM} {v1 : Int32} {v2 : Int32} {v3 : Int32} {v4 : Int32} {v5 : Int32} {v6 : Int32} {z : ((qaM × Int32 × Int32 × Int32) ⊕ (Int32 × qaM))} (hf : b_X0_livesWeek_62 i0 m v1 v2 v3 v4 v5 v6 = some z) (hK : (qa_K (fun s => QG X Y 8 s.1 21 [(0, .ref (Y.2.2.1 i0)), (1, .int v1), (2, .int v2), (3, .int v3), (4, .int s.2.1), (5, .int s.2.2.1), (6, .int s.2.2.2)] []) (qa_eq fin)) z) : QG X Y 8 m 62 [(0, .ref (Y.2.2.1 i0)), (1, .int v1), (2, .int v2), (3, .int v3), (4, .int v4), (5, .int v5), (6, .int v6)] [] := by
  unfold b_X0_livesWeek_62 at hf
  obtain ⟨x15, ex15, hf⟩ := qa_lt_e hf
  refine qi_iinc hC (n := 1) (v := x15) 6 rfl ((congrArg (fun q => v6 + q) kn_iconst_1).trans ex15.symm) (by decide) rfl dX0_livesWeek_62 ?_
  refine qi_goto (tgt := 21) hC (by decide) dX0_livesWeek_65 ?_
  obtain rfl := Option.some.inj hf
  refine qi_sub hC [1, 2, 3, 4, 5, 6, 0] rfl ?_
  exact hK
set_option maxRecDepth 100000 in
set_option maxHeartbeats 4000000 in
theorem t_X0_livesWeek_21 {X : qaX} {l : Launch} {Y : qaY} {fin : Int32 × qaM} {i0 : Nat} (hC : QC X l Y cX0_livesWeek RX0 8 4) (hQ : QRi X Y (some .int) fin.2 fin.1) (hi0 : qaHou i0) {m : qaM} {v1 : Int32} {v2 : Int32} {v3 : Int32} {v4 : Int32} {v5 : Int32} {v6 : Int32} {z : ((qaM × Int32 × Int32 × Int32) ⊕ (Int32 × qaM))} (hf : b_X0_livesWeek_21 i0 m v1 v2 v3 v4 v5 v6 = some z) (hK : (qa_K (fun s => QG X Y 8 s.1 21 [(0, .ref (Y.2.2.1 i0)), (1, .int v1), (2, .int v2), (3, .int v3), (4, .int s.2.1), (5, .int s.2.2.1), (6, .int s.2.2.2)] []) (qa_eq fin)) z) : QG X Y 8 m 21 [(0, .ref (Y.2.2.1 i0)), (1, .int v1), (2, .int v2), (3, .int v3), (4, .int v4), (5, .int v5), (6, .int v6)] [] := by
  unfold b_X0_livesWeek_21 at hf
  refine qi_iload hC 6 rfl dX0_livesWeek_21 ?_
  refine qi_iload_n hC 1 rfl rfl dX0_livesWeek_23 ?_
  refine qi_icmp_ge (tgt := 68) hC (by decide) dX0_livesWeek_24 (fun h => ?_) (fun h => ?_)
  · replace hf := qa_if_t h hf
    obtain ⟨z, rfl, hg⟩ := qa_inr_e hf; have hf := hg
    refine qi_sub hC [0, 3, 4, 5] rfl ?_
    exact t_X0_livesWeek_68 hC hQ hi0 hf hK
  · replace hf := qa_if_f h hf
    refine qi_aload_n hC 0 rfl rfl dX0_livesWeek_27 ?_
    refine qi_getr hC kf_X0_21 hi0.1 rfl dX0_livesWeek_28 ?_
    refine qi_aload_n hC 0 rfl rfl dX0_livesWeek_31 ?_
    refine qi_iload_n hC 2 rfl rfl dX0_livesWeek_32 ?_
    obtain ⟨q12, hq12, hf⟩ := Option.bind_eq_some_iff.mp hf
    refine qi_callVi hC (as := [.int v2]) (c_X0_placeToTake _ _ hi0 _ _ _ hq12) kl_X0_116 hi0.1 kc_X0_placeToTake rfl rfl (by decide) (by decide) (Nat.le_of_ble_eq_true rfl) dX0_livesWeek_33 ?_
    obtain ⟨q13, hq13, hf⟩ := Option.bind_eq_some_iff.mp hf
    refine qi_callVi hC (as := [.int q12]) (c_X2_removesAt _ _ hi0.2.2.1 _ _ _ hq13) kl_X0_91 hi0.2.2.1.1 kc_X2_removesAt rfl rfl (by decide) (by decide) (Nat.le_of_ble_eq_true rfl) dX0_livesWeek_36 ?_
    refine qi_istore hC (by decide) rfl dX0_livesWeek_39 ?_
    refine qi_iload hC 0 rfl dX0_livesWeek_41 ?_
    refine qi_iconst hC dX0_livesWeek_43 kn_iconst_m1 ?_
    refine qi_icmp_ne (tgt := 53) hC (by decide) dX0_livesWeek_44 (fun h => ?_) (fun h => ?_)
    · replace hf := qa_if_f h hf
      refine qi_iload hC 6 rfl dX0_livesWeek_53 ?_
      refine qi_iconst hC dX0_livesWeek_55 kn_iconst_1 ?_
      refine qi_iload hC 0 rfl dX0_livesWeek_56 ?_
      refine qi_ishl hC dX0_livesWeek_58 ?_
      refine qi_ior hC dX0_livesWeek_59 ?_
      obtain ⟨x14, ex14, hf⟩ := qa_lt_e hf
      refine qi_nmi hC ex14 ?_
      refine qi_istore hC (by decide) rfl dX0_livesWeek_60 ?_
      refine qi_sub hC [2, 3, 4, 5, 6, 0, 7] rfl ?_
      exact t_X0_livesWeek_62 hC hQ hi0 hf hK
    · replace hf := qa_if_t h hf
      obtain ⟨x16, ex16, hf⟩ := qa_lt_e hf
      refine qi_iinc hC (n := 1) (v := x16) 5 rfl ((congrArg (fun q => v4 + q) kn_iconst_1).trans ex16.symm) (by decide) rfl dX0_livesWeek_47 ?_
      refine qi_goto (tgt := 62) hC (by decide) dX0_livesWeek_50 ?_
      refine qi_sub hC [2, 3, 4, 5, 0, 6, 7] rfl ?_
      exact t_X0_livesWeek_62 hC hQ hi0 hf hK
set_option maxRecDepth 100000 in
set_option maxHeartbeats 4000000 in
theorem tn_X0_livesWeek_21 {X : qaX} {l : Launch} {Y : qaY} {fin : Int32 × qaM} {i0 : Nat} (hC : QC X l Y cX0_livesWeek RX0 8 4) (hQ : QRi X Y (some .int) fin.2 fin.1) (hi0 : qaHou i0) {v1 : Int32} {v2 : Int32} {v3 : Int32} {z : (Int32 × qaM)} (hK : (qa_eq fin) z) : ∀ (n : Nat) (s : qaM × Int32 × Int32 × Int32), qa_lp (fun s => b_X0_livesWeek_21 i0 s.1 v1 v2 v3 s.2.1 s.2.2.1 s.2.2.2) n s = some z → QG X Y 8 s.1 21 [(0, .ref (Y.2.2.1 i0)), (1, .int v1), (2, .int v2), (3, .int v3), (4, .int s.2.1), (5, .int s.2.2.1), (6, .int s.2.2.2)] [] := by
  intro n
  induction n with
  | zero => intro s hf; cases hf
  | succ n ih =>
    intro s hf
    obtain ⟨y, hy, hf⟩ := qa_lp_e hf
    refine t_X0_livesWeek_21 hC hQ hi0 hy ?_
    rcases hf with ⟨s', rfl, hf⟩ | rfl
    · exact ih s' hf
    · exact hK
set_option maxRecDepth 100000 in
set_option maxHeartbeats 4000000 in
theorem tl_X0_livesWeek_21 {X : qaX} {l : Launch} {Y : qaY} {fin : Int32 × qaM} {i0 : Nat} (hC : QC X l Y cX0_livesWeek RX0 8 4) (hQ : QRi X Y (some .int) fin.2 fin.1) (hi0 : qaHou i0) {m : qaM} {v1 : Int32} {v2 : Int32} {v3 : Int32} {v4 : Int32} {v5 : Int32} {v6 : Int32} {z : (Int32 × qaM)} (hf : lp_X0_livesWeek_21 i0 m v1 v2 v3 v4 v5 v6 = some z) (hK : (qa_eq fin) z) : QG X Y 8 m 21 [(0, .ref (Y.2.2.1 i0)), (1, .int v1), (2, .int v2), (3, .int v3), (4, .int v4), (5, .int v5), (6, .int v6)] [] :=
  tn_X0_livesWeek_21 hC hQ hi0 hK qa_F (m, v4, v5, v6) hf
set_option maxRecDepth 100000 in
set_option maxHeartbeats 4000000 in
theorem c_X0_livesWeek (l : Launch) (Y : qaY) {i0 : Nat} (hi0 : qaHou i0) (m : qaM) (v1 : Int32) (v2 : Int32) (q : Int32 × qaM) (hf : f_X0_livesWeek i0 m v1 v2 = some q) : qaMi l Y yX0_livesWeek cX0_livesWeek 8 (some .int) 4 [.ref (Y.2.2.1 i0), .int v1, .int v2] m q.2 q.1 := by
  refine qa_enti (by decide +kernel) (Nat.le_of_ble_eq_true rfl) fun X hC hQ => ?_
  have hK : qa_eq q q := rfl
  unfold f_X0_livesWeek at hf
  refine qi_aload_n hC 0 rfl rfl dX0_livesWeek_0 ?_
  refine qi_getr hC kf_X0_12 hi0.1 rfl dX0_livesWeek_1 ?_
  obtain ⟨q1, hq1, hf⟩ := Option.bind_eq_some_iff.mp hf
  refine qi_callVi hC (as := []) (c_X1_left _ _ hi0.2.1 _ _ hq1) kl_X0_109 hi0.2.1.1 kc_X1_left rfl rfl (by decide) (by decide) (Nat.le_of_ble_eq_true rfl) dX0_livesWeek_4 ?_
  refine qi_istore_n hC rfl (by decide) rfl dX0_livesWeek_7 ?_
  refine qi_aload_n hC 1 rfl rfl dX0_livesWeek_8 ?_
  obtain ⟨q2, hq2, hf⟩ := Option.bind_eq_some_iff.mp hf
  refine qi_callVv hC (as := []) (c_X0_comesBack _ _ hi0 _ _ hq2) kl_X0_113 hi0.1 kc_X0_comesBack rfl rfl (by decide) (by decide) (Nat.le_of_ble_eq_true rfl) dX0_livesWeek_9 ?_
  refine qi_iconst hC dX0_livesWeek_12 kn_iconst_0 ?_
  refine qi_istore hC (by decide) rfl dX0_livesWeek_13 ?_
  refine qi_iconst hC dX0_livesWeek_15 kn_iconst_0 ?_
  refine qi_istore hC (by decide) rfl dX0_livesWeek_16 ?_
  refine qi_iconst hC dX0_livesWeek_18 kn_iconst_0 ?_
  refine qi_istore hC (by decide) rfl dX0_livesWeek_19 ?_
  refine qi_sub hC [4, 5, 6, 3, 2, 1, 0] rfl ?_
  exact tl_X0_livesWeek_21 hC hQ hi0 hf hK
set_option maxRecDepth 100000 in
set_option maxHeartbeats 4000000 in
theorem c_X0_beginsAs (l : Launch) (Y : qaY) {i0 : Nat} {i1 : Nat} (hi0 : qaHou i0) (hi1 : qaHou i1) (m : qaM) (q : qaM) (hf : f_X0_beginsAs i0 i1 m = some q) : qaMv l Y yX0_beginsAs cX0_beginsAs 2 2 [.ref (Y.2.2.1 i0), .ref (Y.2.2.1 i1)] m q := by
  refine qa_entv (by decide +kernel) (Nat.le_of_ble_eq_true rfl) fun X hC hQ => ?_
  have hK : qa_eq q q := rfl
  unfold f_X0_beginsAs at hf
  refine qi_aload_n hC 0 rfl rfl dX0_beginsAs_0 ?_
  refine qi_getr hC kf_X0_12 hi0.1 rfl dX0_beginsAs_1 ?_
  refine qi_aload_n hC 1 rfl rfl dX0_beginsAs_4 ?_
  refine qi_getr hC kf_X0_12 hi1.1 rfl dX0_beginsAs_5 ?_
  obtain ⟨q1, hq1, hf⟩ := Option.bind_eq_some_iff.mp hf
  refine qi_callVv hC (as := [.ref (Y.2.2.1 (i1 + 1))]) (c_X1_becomes _ _ hi0.2.1 hi1.2.1 _ _ hq1) kl_X0_37 hi0.2.1.1 kc_X1_becomes rfl rfl (by decide) (by decide) (Nat.le_of_ble_eq_true rfl) dX0_beginsAs_8 ?_
  refine qi_aload_n hC 0 rfl rfl dX0_beginsAs_11 ?_
  refine qi_getr hC kf_X0_21 hi0.1 rfl dX0_beginsAs_12 ?_
  refine qi_aload_n hC 1 rfl rfl dX0_beginsAs_15 ?_
  refine qi_getr hC kf_X0_21 hi1.1 rfl dX0_beginsAs_16 ?_
  obtain ⟨q2, hq2, hf⟩ := Option.bind_eq_some_iff.mp hf
  refine qi_callVv hC (as := [.ref (Y.2.2.1 (i1 + 3))]) (c_X2_becomes _ _ hi0.2.2.1 hi1.2.2.1 _ _ hq2) kl_X0_41 hi0.2.2.1.1 kc_X2_becomes rfl rfl (by decide) (by decide) (Nat.le_of_ble_eq_true rfl) dX0_beginsAs_19 ?_
  refine qi_aload_n hC 1 rfl rfl dX0_beginsAs_22 ?_
  refine qi_getr hC kf_X0_25 hi1.1 rfl dX0_beginsAs_23 ?_
  refine qi_iconst hC dX0_beginsAs_26 kn_iconst_0 ?_
  refine qi_aload_n hC 0 rfl rfl dX0_beginsAs_27 ?_
  refine qi_getr hC kf_X0_25 hi0.1 rfl dX0_beginsAs_28 ?_
  refine qi_iconst hC dX0_beginsAs_31 kn_iconst_0 ?_
  refine qi_iconst hC dX0_beginsAs_32 kn_iconst_4 ?_
  obtain ⟨h4, hf⟩ := qa_ck_e hf
  obtain ⟨m3, em3, hf⟩ := qa_lt_e hf
  obtain ⟨c1, c2, c3, c4, c5⟩ := qa_cpok_e h4
  refine qi_copy hC em3 km_X0_44 ka_nat ka_stat kz_J10 hi1.2.2.2 hi0.2.2.2 c1 c2 c3 c4 c5 (by decide) (Nat.le_of_ble_eq_true rfl) dX0_beginsAs_33 ?_
  refine qi_aload_n hC 0 rfl rfl dX0_beginsAs_36 ?_
  refine qi_aload_n hC 1 rfl rfl dX0_beginsAs_37 ?_
  refine qi_geti hC kf_X0_50 hi1.1 rfl dX0_beginsAs_38 ?_
  obtain ⟨m5, em5, hf⟩ := qa_lt_e hf
  refine qi_puti hC em5 kp_X0_50 hi0.1 rfl rfl rfl dX0_beginsAs_41 ?_
  refine qi_aload_n hC 0 rfl rfl dX0_beginsAs_44 ?_
  refine qi_aload_n hC 1 rfl rfl dX0_beginsAs_45 ?_
  refine qi_geti hC kf_X0_53 hi1.1 rfl dX0_beginsAs_46 ?_
  obtain ⟨m6, em6, hf⟩ := qa_lt_e hf
  refine qi_puti hC em6 kp_X0_53 hi0.1 rfl rfl rfl dX0_beginsAs_49 ?_
  refine qi_aload_n hC 0 rfl rfl dX0_beginsAs_52 ?_
  refine qi_iconst hC dX0_beginsAs_53 kn_iconst_0 ?_
  obtain ⟨m7, em7, hf⟩ := qa_lt_e hf
  refine qi_puti hC em7 kp_X0_56 hi0.1 rfl rfl rfl dX0_beginsAs_54 ?_
  refine qi_aload_n hC 0 rfl rfl dX0_beginsAs_57 ?_
  refine qi_iconst hC dX0_beginsAs_58 kn_iconst_0 ?_
  obtain ⟨m8, em8, hf⟩ := qa_lt_e hf
  refine qi_puti hC em8 kp_X0_59 hi0.1 rfl rfl rfl dX0_beginsAs_59 ?_
  refine qi_aload_n hC 0 rfl rfl dX0_beginsAs_62 ?_
  refine qi_iconst hC dX0_beginsAs_63 kn_iconst_m1 ?_
  obtain ⟨m9, em9, hf⟩ := qa_lt_e hf
  refine qi_puti hC em9 kp_X0_29 hi0.1 rfl rfl rfl dX0_beginsAs_64 ?_
  refine qi_aload_n hC 0 rfl rfl dX0_beginsAs_67 ?_
  refine qi_iconst hC dX0_beginsAs_68 kn_iconst_0 ?_
  obtain ⟨m10, em10, hf⟩ := qa_lt_e hf
  refine qi_puti hC em10 kp_X0_62 hi0.1 rfl rfl rfl dX0_beginsAs_69 ?_
  obtain rfl := Option.some.inj hf
  exact qi_vret hC hQ hK dX0_beginsAs_72
set_option maxRecDepth 100000 in
set_option maxHeartbeats 4000000 in
theorem t_X0_livesWeeks_2 {X : qaX} {l : Launch} {Y : qaY} {fin : qaM} {i0 : Nat} (hC : QC X l Y cX0_livesWeeks RX0 3 5) (hQ : QRv X Y fin) (hi0 : qaHou i0) {m : qaM} {v1 : Int32} {v2 : Int32} {z : ((qaM × Int32) ⊕ (qaM))} (hf : b_X0_livesWeeks_2 i0 m v1 v2 = some z) (hK : (qa_K (fun s => QG X Y 3 s.1 2 [(0, .ref (Y.2.2.1 i0)), (1, .int v1), (2, .int s.2)] []) (qa_eq fin)) z) : QG X Y 3 m 2 [(0, .ref (Y.2.2.1 i0)), (1, .int v1), (2, .int v2)] [] := by
  unfold b_X0_livesWeeks_2 at hf
  refine qi_iload_n hC 2 rfl rfl dX0_livesWeeks_2 ?_
  refine qi_iload_n hC 1 rfl rfl dX0_livesWeeks_3 ?_
  refine qi_icmp_ge (tgt := 30) hC (by decide) dX0_livesWeeks_4 (fun h => ?_) (fun h => ?_)
  · replace hf := qa_if_t h hf
    obtain ⟨z, rfl, hg⟩ := qa_inr_e hf; have hf := hg
    obtain rfl := Option.some.inj hf
    exact qi_vret hC hQ hK dX0_livesWeeks_30
  · replace hf := qa_if_f h hf
    refine qi_aload_n hC 0 rfl rfl dX0_livesWeeks_7 ?_
    refine qi_aload_n hC 0 rfl rfl dX0_livesWeeks_8 ?_
    refine qi_getr hC kf_X0_25 hi0.1 rfl dX0_livesWeeks_9 ?_
    refine qi_iconst hC dX0_livesWeeks_12 kn_iconst_0 ?_
    refine qi_iald hC tn_0 hi0.2.2.2 vi_0_4 dX0_livesWeeks_13 ?_
    refine qi_aload_n hC 0 rfl rfl dX0_livesWeeks_14 ?_
    refine qi_getr hC kf_X0_25 hi0.1 rfl dX0_livesWeeks_15 ?_
    refine qi_iconst hC dX0_livesWeeks_18 kn_iconst_2 ?_
    refine qi_iald hC tn_2 hi0.2.2.2 vi_2_4 dX0_livesWeeks_19 ?_
    obtain ⟨q1, hq1, hf⟩ := Option.bind_eq_some_iff.mp hf
    refine qi_callVi hC (as := [.int (m (i0 + 5) 0), .int (m (i0 + 5) 2)]) (c_X0_livesWeek _ _ hi0 _ _ _ _ hq1) kl_X0_97 hi0.1 kc_X0_livesWeek rfl rfl (by decide) (by decide) (Nat.le_of_ble_eq_true rfl) dX0_livesWeeks_20 ?_
    refine qi_pop hC rfl dX0_livesWeeks_23 ?_
    obtain ⟨x2, ex2, hf⟩ := qa_lt_e hf
    refine qi_iinc hC (n := 1) (v := x2) 2 rfl ((congrArg (fun q => v2 + q) kn_iconst_1).trans ex2.symm) (by decide) rfl dX0_livesWeeks_24 ?_
    refine qi_goto (tgt := 2) hC (by decide) dX0_livesWeeks_27 ?_
    obtain rfl := Option.some.inj hf
    refine qi_sub hC [1, 2, 0] rfl ?_
    exact hK
set_option maxRecDepth 100000 in
set_option maxHeartbeats 4000000 in
theorem tn_X0_livesWeeks_2 {X : qaX} {l : Launch} {Y : qaY} {fin : qaM} {i0 : Nat} (hC : QC X l Y cX0_livesWeeks RX0 3 5) (hQ : QRv X Y fin) (hi0 : qaHou i0) {v1 : Int32} {z : (qaM)} (hK : (qa_eq fin) z) : ∀ (n : Nat) (s : qaM × Int32), qa_lp (fun s => b_X0_livesWeeks_2 i0 s.1 v1 s.2) n s = some z → QG X Y 3 s.1 2 [(0, .ref (Y.2.2.1 i0)), (1, .int v1), (2, .int s.2)] [] := by
  intro n
  induction n with
  | zero => intro s hf; cases hf
  | succ n ih =>
    intro s hf
    obtain ⟨y, hy, hf⟩ := qa_lp_e hf
    refine t_X0_livesWeeks_2 hC hQ hi0 hy ?_
    rcases hf with ⟨s', rfl, hf⟩ | rfl
    · exact ih s' hf
    · exact hK
set_option maxRecDepth 100000 in
set_option maxHeartbeats 4000000 in
theorem tl_X0_livesWeeks_2 {X : qaX} {l : Launch} {Y : qaY} {fin : qaM} {i0 : Nat} (hC : QC X l Y cX0_livesWeeks RX0 3 5) (hQ : QRv X Y fin) (hi0 : qaHou i0) {m : qaM} {v1 : Int32} {v2 : Int32} {z : (qaM)} (hf : lp_X0_livesWeeks_2 i0 m v1 v2 = some z) (hK : (qa_eq fin) z) : QG X Y 3 m 2 [(0, .ref (Y.2.2.1 i0)), (1, .int v1), (2, .int v2)] [] :=
  tn_X0_livesWeeks_2 hC hQ hi0 hK qa_F (m, v2) hf
set_option maxRecDepth 100000 in
set_option maxHeartbeats 4000000 in
theorem c_X0_livesWeeks (l : Launch) (Y : qaY) {i0 : Nat} (hi0 : qaHou i0) (m : qaM) (v1 : Int32) (q : qaM) (hf : f_X0_livesWeeks i0 m v1 = some q) : qaMv l Y yX0_livesWeeks cX0_livesWeeks 3 5 [.ref (Y.2.2.1 i0), .int v1] m q := by
  refine qa_entv (by decide +kernel) (Nat.le_of_ble_eq_true rfl) fun X hC hQ => ?_
  have hK : qa_eq q q := rfl
  unfold f_X0_livesWeeks at hf
  refine qi_iconst hC dX0_livesWeeks_0 kn_iconst_0 ?_
  refine qi_istore_n hC rfl (by decide) rfl dX0_livesWeeks_1 ?_
  refine qi_sub hC [1, 2, 0] rfl ?_
  exact tl_X0_livesWeeks_2 hC hQ hi0 hf hK
set_option maxRecDepth 100000 in
set_option maxHeartbeats 4000000 in
theorem t_X0_weekOfCloths_15 {X : qaX} {l : Launch} {Y : qaY} {fin : Int32 × qaM} {i0 : Nat} (hC : QC X l Y cX0_weekOfCloths RX0 4 5) (hQ : QRi X Y (some .int) fin.2 fin.1) (hi0 : qaHou i0) {m : qaM} {v1 : Int32} {v2 : Int32} {v3 : Int32} {z : ((qaM × Int32) ⊕ (Int32 × qaM))} (hf : b_X0_weekOfCloths_15 i0 m v1 v2 v3 = some z) (hK : (qa_K (fun s => QG X Y 4 s.1 15 [(0, .ref (Y.2.2.1 i0)), (1, .int v1), (2, .int v2), (3, .int s.2)] []) (qa_eq fin)) z) : QG X Y 4 m 15 [(0, .ref (Y.2.2.1 i0)), (1, .int v1), (2, .int v2), (3, .int v3)] [] := by
  unfold b_X0_weekOfCloths_15 at hf
  refine qi_iload_n hC 3 rfl rfl dX0_weekOfCloths_15 ?_
  refine qi_iload_n hC 2 rfl rfl dX0_weekOfCloths_16 ?_
  refine qi_icmp_ge (tgt := 56) hC (by decide) dX0_weekOfCloths_17 (fun h => ?_) (fun h => ?_)
  · replace hf := qa_if_t h hf
    refine qi_iload_n hC 2 rfl rfl dX0_weekOfCloths_56 ?_
    obtain ⟨z, rfl, hg⟩ := qa_inr_e hf; have hf := hg
    obtain rfl := Option.some.inj hf
    exact qi_ireti hC hQ hK dX0_weekOfCloths_57
  · replace hf := qa_if_f h hf
    refine qi_aload_n hC 0 rfl rfl dX0_weekOfCloths_20 ?_
    refine qi_aload_n hC 0 rfl rfl dX0_weekOfCloths_21 ?_
    refine qi_getr hC kf_X0_25 hi0.1 rfl dX0_weekOfCloths_22 ?_
    refine qi_iconst hC dX0_weekOfCloths_25 kn_iconst_0 ?_
    refine qi_iald hC tn_0 hi0.2.2.2 vi_0_4 dX0_weekOfCloths_26 ?_
    refine qi_aload_n hC 0 rfl rfl dX0_weekOfCloths_27 ?_
    refine qi_getr hC kf_X0_25 hi0.1 rfl dX0_weekOfCloths_28 ?_
    refine qi_iconst hC dX0_weekOfCloths_31 kn_iconst_2 ?_
    refine qi_iald hC tn_2 hi0.2.2.2 vi_2_4 dX0_weekOfCloths_32 ?_
    obtain ⟨q2, hq2, hf⟩ := Option.bind_eq_some_iff.mp hf
    refine qi_callVi hC (as := [.int (m (i0 + 5) 0), .int (m (i0 + 5) 2)]) (c_X0_livesWeek _ _ hi0 _ _ _ _ hq2) kl_X0_97 hi0.1 kc_X0_livesWeek rfl rfl (by decide) (by decide) (Nat.le_of_ble_eq_true rfl) dX0_weekOfCloths_33 ?_
    refine qi_pop hC rfl dX0_weekOfCloths_36 ?_
    refine qi_aload_n hC 0 rfl rfl dX0_weekOfCloths_37 ?_
    refine qi_getr hC kf_X0_12 hi0.1 rfl dX0_weekOfCloths_38 ?_
    refine qi_iload_n hC 1 rfl rfl dX0_weekOfCloths_41 ?_
    obtain ⟨q3, hq3, hf⟩ := Option.bind_eq_some_iff.mp hf
    refine qi_callVi hC (as := [.int v1]) (c_X1_isCloths _ _ hi0.2.1 _ _ _ hq3) kl_X0_106 hi0.2.1.1 kc_X1_isCloths rfl rfl (by decide) (by decide) (Nat.le_of_ble_eq_true rfl) dX0_weekOfCloths_42 ?_
    refine qi_if_eq (tgt := 50) hC (by decide) dX0_weekOfCloths_45 (fun h => ?_) (fun h => ?_)
    · replace hf := qa_if_t h hf
      obtain ⟨x4, ex4, hf⟩ := qa_lt_e hf
      refine qi_iinc hC (n := 1) (v := x4) 3 rfl ((congrArg (fun q => v3 + q) kn_iconst_1).trans ex4.symm) (by decide) rfl dX0_weekOfCloths_50 ?_
      refine qi_goto (tgt := 15) hC (by decide) dX0_weekOfCloths_53 ?_
      obtain rfl := Option.some.inj hf
      refine qi_sub hC [1, 2, 3, 0] rfl ?_
      exact hK
    · replace hf := qa_if_f h hf
      refine qi_iload_n hC 3 rfl rfl dX0_weekOfCloths_48 ?_
      obtain ⟨z, rfl, hg⟩ := qa_inr_e hf; have hf := hg
      obtain rfl := Option.some.inj hf
      exact qi_ireti hC hQ hK dX0_weekOfCloths_49
set_option maxRecDepth 100000 in
set_option maxHeartbeats 4000000 in
theorem tn_X0_weekOfCloths_15 {X : qaX} {l : Launch} {Y : qaY} {fin : Int32 × qaM} {i0 : Nat} (hC : QC X l Y cX0_weekOfCloths RX0 4 5) (hQ : QRi X Y (some .int) fin.2 fin.1) (hi0 : qaHou i0) {v1 : Int32} {v2 : Int32} {z : (Int32 × qaM)} (hK : (qa_eq fin) z) : ∀ (n : Nat) (s : qaM × Int32), qa_lp (fun s => b_X0_weekOfCloths_15 i0 s.1 v1 v2 s.2) n s = some z → QG X Y 4 s.1 15 [(0, .ref (Y.2.2.1 i0)), (1, .int v1), (2, .int v2), (3, .int s.2)] [] := by
  intro n
  induction n with
  | zero => intro s hf; cases hf
  | succ n ih =>
    intro s hf
    obtain ⟨y, hy, hf⟩ := qa_lp_e hf
    refine t_X0_weekOfCloths_15 hC hQ hi0 hy ?_
    rcases hf with ⟨s', rfl, hf⟩ | rfl
    · exact ih s' hf
    · exact hK
set_option maxRecDepth 100000 in
set_option maxHeartbeats 4000000 in
theorem tl_X0_weekOfCloths_15 {X : qaX} {l : Launch} {Y : qaY} {fin : Int32 × qaM} {i0 : Nat} (hC : QC X l Y cX0_weekOfCloths RX0 4 5) (hQ : QRi X Y (some .int) fin.2 fin.1) (hi0 : qaHou i0) {m : qaM} {v1 : Int32} {v2 : Int32} {v3 : Int32} {z : (Int32 × qaM)} (hf : lp_X0_weekOfCloths_15 i0 m v1 v2 v3 = some z) (hK : (qa_eq fin) z) : QG X Y 4 m 15 [(0, .ref (Y.2.2.1 i0)), (1, .int v1), (2, .int v2), (3, .int v3)] [] :=
  tn_X0_weekOfCloths_15 hC hQ hi0 hK qa_F (m, v3) hf
set_option maxRecDepth 100000 in
set_option maxHeartbeats 4000000 in
theorem c_X0_weekOfCloths (l : Launch) (Y : qaY) {i0 : Nat} (hi0 : qaHou i0) (m : qaM) (v1 : Int32) (v2 : Int32) (q : Int32 × qaM) (hf : f_X0_weekOfCloths i0 m v1 v2 = some q) : qaMi l Y yX0_weekOfCloths cX0_weekOfCloths 4 (some .int) 5 [.ref (Y.2.2.1 i0), .int v1, .int v2] m q.2 q.1 := by
  refine qa_enti (by decide +kernel) (Nat.le_of_ble_eq_true rfl) fun X hC hQ => ?_
  have hK : qa_eq q q := rfl
  unfold f_X0_weekOfCloths at hf
  refine qi_aload_n hC 0 rfl rfl dX0_weekOfCloths_0 ?_
  refine qi_getr hC kf_X0_12 hi0.1 rfl dX0_weekOfCloths_1 ?_
  refine qi_iload_n hC 1 rfl rfl dX0_weekOfCloths_4 ?_
  obtain ⟨q1, hq1, hf⟩ := Option.bind_eq_some_iff.mp hf
  refine qi_callVi hC (as := [.int v1]) (c_X1_isCloths _ _ hi0.2.1 _ _ _ hq1) kl_X0_106 hi0.2.1.1 kc_X1_isCloths rfl rfl (by decide) (by decide) (Nat.le_of_ble_eq_true rfl) dX0_weekOfCloths_5 ?_
  refine qi_if_eq (tgt := 13) hC (by decide) dX0_weekOfCloths_8 (fun h => ?_) (fun h => ?_)
  · replace hf := qa_if_t h hf
    refine qi_iconst hC dX0_weekOfCloths_13 kn_iconst_0 ?_
    refine qi_istore_n hC rfl (by decide) rfl dX0_weekOfCloths_14 ?_
    refine qi_sub hC [1, 2, 3, 0] rfl ?_
    exact tl_X0_weekOfCloths_15 hC hQ hi0 hf hK
  · replace hf := qa_if_f h hf
    refine qi_iload_n hC 2 rfl rfl dX0_weekOfCloths_11 ?_
    obtain rfl := Option.some.inj hf
    exact qi_ireti hC hQ hK dX0_weekOfCloths_12
set_option maxRecDepth 100000 in
set_option maxHeartbeats 4000000 in
theorem t_X0_livesByLot_56 {X : qaX} {l : Launch} {Y : qaY} {fin : qaM} {i0 : Nat} (hC : QC X l Y cX0_livesByLot RX0 7 5) (hQ : QRv X Y fin) (hi0 : qaHou i0) {m : qaM} {v2 : Int32} {v3 : Int32} {v4 : Int64} {v6 : Int32} {s1 : Int32} {s2 : Int32} {z : ((qaM × Int64 × Int32) ⊕ (qaM))} (hf : b_X0_livesByLot_56 i0 m v2 v3 v4 v6 s1 s2 = some z) (hK : (qa_K (fun s => QG X Y 7 s.1 9 [(0, .ref (Y.2.2.1 i0)), (2, .int v2), (3, .int v3), (4, .long s.2.1), (6, .int s.2.2)] []) (qa_eq fin)) z) : QG X Y 7 m 56 [(0, .ref (Y.2.2.1 i0)), (2, .int v2), (3, .int v3), (4, .long v4), (6, .int v6)] [.int s2, .int s1, .ref (Y.2.2.1 i0)] := by
  unfold b_X0_livesByLot_56 at hf
  obtain ⟨q3, hq3, hf⟩ := Option.bind_eq_some_iff.mp hf
  refine qi_callVi hC (as := [.int s1, .int s2]) (c_X0_livesWeek _ _ hi0 _ _ _ _ hq3) kl_X0_97 hi0.1 kc_X0_livesWeek rfl rfl (by decide) (by decide) (Nat.le_of_ble_eq_true rfl) dX0_livesByLot_56 ?_
  refine qi_pop hC rfl dX0_livesByLot_59 ?_
  obtain ⟨x4, ex4, hf⟩ := qa_lt_e hf
  refine qi_iinc hC (n := 1) (v := x4) 4 rfl ((congrArg (fun q => v6 + q) kn_iconst_1).trans ex4.symm) (by decide) rfl dX0_livesByLot_60 ?_
  refine qi_goto (tgt := 9) hC (by decide) dX0_livesByLot_63 ?_
  obtain rfl := Option.some.inj hf
  refine qi_sub hC [1, 2, 3, 4, 0] rfl ?_
  exact hK
set_option maxRecDepth 100000 in
set_option maxHeartbeats 4000000 in
theorem t_X0_livesByLot_9 {X : qaX} {l : Launch} {Y : qaY} {fin : qaM} {i0 : Nat} (hC : QC X l Y cX0_livesByLot RX0 7 5) (hQ : QRv X Y fin) (hi0 : qaHou i0) {m : qaM} {v2 : Int32} {v3 : Int32} {v4 : Int64} {v6 : Int32} {z : ((qaM × Int64 × Int32) ⊕ (qaM))} (hf : b_X0_livesByLot_9 i0 m v2 v3 v4 v6 = some z) (hK : (qa_K (fun s => QG X Y 7 s.1 9 [(0, .ref (Y.2.2.1 i0)), (2, .int v2), (3, .int v3), (4, .long s.2.1), (6, .int s.2.2)] []) (qa_eq fin)) z) : QG X Y 7 m 9 [(0, .ref (Y.2.2.1 i0)), (2, .int v2), (3, .int v3), (4, .long v4), (6, .int v6)] [] := by
  unfold b_X0_livesByLot_9 at hf
  refine qi_iload hC 4 rfl dX0_livesByLot_9 ?_
  refine qi_iload_n hC 1 rfl rfl dX0_livesByLot_11 ?_
  refine qi_icmp_ge (tgt := 66) hC (by decide) dX0_livesByLot_12 (fun h => ?_) (fun h => ?_)
  · replace hf := qa_if_t h hf
    obtain ⟨z, rfl, hg⟩ := qa_inr_e hf; have hf := hg
    obtain rfl := Option.some.inj hf
    exact qi_vret hC hQ hK dX0_livesByLot_66
  · replace hf := qa_if_f h hf
    refine qi_lload hC 3 rfl dX0_livesByLot_15 ?_
    refine qi_ldc2 hC kk_X0_100 dX0_livesByLot_17 ?_
    refine qi_lmul hC dX0_livesByLot_20 ?_
    refine qi_ldc2 hC kk_X0_102 dX0_livesByLot_21 ?_
    refine qi_lrem hC (by decide) dX0_livesByLot_24 ?_
    obtain ⟨x2, ex2, hf⟩ := qa_lt_e hf
    refine qi_nml hC ex2 ?_
    refine qi_lstore hC (by decide) rfl dX0_livesByLot_25 ?_
    refine qi_aload_n hC 1 rfl rfl dX0_livesByLot_27 ?_
    refine qi_aload_n hC 1 rfl rfl dX0_livesByLot_28 ?_
    refine qi_getr hC kf_X0_25 hi0.1 rfl dX0_livesByLot_29 ?_
    refine qi_iconst hC dX0_livesByLot_32 kn_iconst_0 ?_
    refine qi_iald hC tn_0 hi0.2.2.2 vi_0_4 dX0_livesByLot_33 ?_
    refine qi_lload hC 0 rfl dX0_livesByLot_34 ?_
    refine qi_ldc2 hC kk_X0_104 dX0_livesByLot_36 ?_
    refine qi_lrem hC (by decide) dX0_livesByLot_39 ?_
    refine qi_iload_n hC 3 rfl rfl dX0_livesByLot_40 ?_
    refine qi_i2l hC dX0_livesByLot_41 ?_
    refine qi_lcmp hC dX0_livesByLot_42 ?_
    refine qi_if_ge (tgt := 50) hC (by decide) dX0_livesByLot_43 (fun h => ?_) (fun h => ?_)
    · replace hf := qa_if_t h hf
      refine qi_aload_n hC 1 rfl rfl dX0_livesByLot_50 ?_
      refine qi_getr hC kf_X0_25 hi0.1 rfl dX0_livesByLot_51 ?_
      refine qi_iconst hC dX0_livesByLot_54 kn_iconst_2 ?_
      refine qi_iald hC tn_2 hi0.2.2.2 vi_2_4 dX0_livesByLot_55 ?_
      refine qi_sub hC [1, 2, 3, 0, 4] rfl ?_
      exact t_X0_livesByLot_56 hC hQ hi0 hf hK
    · replace hf := qa_if_f h hf
      refine qi_iconst hC dX0_livesByLot_46 kn_iconst_0 ?_
      refine qi_goto (tgt := 56) hC (by decide) dX0_livesByLot_47 ?_
      refine qi_sub hC [1, 2, 3, 0, 4] rfl ?_
      exact t_X0_livesByLot_56 hC hQ hi0 hf hK
set_option maxRecDepth 100000 in
set_option maxHeartbeats 4000000 in
theorem tn_X0_livesByLot_9 {X : qaX} {l : Launch} {Y : qaY} {fin : qaM} {i0 : Nat} (hC : QC X l Y cX0_livesByLot RX0 7 5) (hQ : QRv X Y fin) (hi0 : qaHou i0) {v2 : Int32} {v3 : Int32} {z : (qaM)} (hK : (qa_eq fin) z) : ∀ (n : Nat) (s : qaM × Int64 × Int32), qa_lp (fun s => b_X0_livesByLot_9 i0 s.1 v2 v3 s.2.1 s.2.2) n s = some z → QG X Y 7 s.1 9 [(0, .ref (Y.2.2.1 i0)), (2, .int v2), (3, .int v3), (4, .long s.2.1), (6, .int s.2.2)] [] := by
  intro n
  induction n with
  | zero => intro s hf; cases hf
  | succ n ih =>
    intro s hf
    obtain ⟨y, hy, hf⟩ := qa_lp_e hf
    refine t_X0_livesByLot_9 hC hQ hi0 hy ?_
    rcases hf with ⟨s', rfl, hf⟩ | rfl
    · exact ih s' hf
    · exact hK
set_option maxRecDepth 100000 in
set_option maxHeartbeats 4000000 in
theorem tl_X0_livesByLot_9 {X : qaX} {l : Launch} {Y : qaY} {fin : qaM} {i0 : Nat} (hC : QC X l Y cX0_livesByLot RX0 7 5) (hQ : QRv X Y fin) (hi0 : qaHou i0) {m : qaM} {v2 : Int32} {v3 : Int32} {v4 : Int64} {v6 : Int32} {z : (qaM)} (hf : lp_X0_livesByLot_9 i0 m v2 v3 v4 v6 = some z) (hK : (qa_eq fin) z) : QG X Y 7 m 9 [(0, .ref (Y.2.2.1 i0)), (2, .int v2), (3, .int v3), (4, .long v4), (6, .int v6)] [] :=
  tn_X0_livesByLot_9 hC hQ hi0 hK qa_F (m, v4, v6) hf
set_option maxRecDepth 100000 in
set_option maxHeartbeats 4000000 in
theorem c_X0_livesByLot (l : Launch) (Y : qaY) {i0 : Nat} (hi0 : qaHou i0) (m : qaM) (v1 : Int32) (v2 : Int32) (v3 : Int32) (q : qaM) (hf : f_X0_livesByLot i0 m v1 v2 v3 = some q) : qaMv l Y yX0_livesByLot cX0_livesByLot 7 5 [.ref (Y.2.2.1 i0), .int v1, .int v2, .int v3] m q := by
  refine qa_entv (by decide +kernel) (Nat.le_of_ble_eq_true rfl) fun X hC hQ => ?_
  have hK : qa_eq q q := rfl
  unfold f_X0_livesByLot at hf
  refine qi_iload_n hC 1 rfl rfl dX0_livesByLot_0 ?_
  refine qi_iconst hC dX0_livesByLot_1 kn_iconst_1 ?_
  refine qi_iadd hC dX0_livesByLot_2 ?_
  refine qi_i2l hC dX0_livesByLot_3 ?_
  obtain ⟨x1, ex1, hf⟩ := qa_lt_e hf
  refine qi_nml hC ex1 ?_
  refine qi_lstore hC (by decide) rfl dX0_livesByLot_4 ?_
  refine qi_iconst hC dX0_livesByLot_6 kn_iconst_0 ?_
  refine qi_istore hC (by decide) rfl dX0_livesByLot_7 ?_
  refine qi_sub hC [2, 4, 5, 1, 0] rfl ?_
  exact tl_X0_livesByLot_9 hC hQ hi0 hf hK
