/-! THE MACHINE DOES WHAT THE FUNCTIONS SAY, laid by program -/
set_option maxRecDepth 100000 in
set_option maxHeartbeats 4000000 in
theorem t_X7_laysBack_64 {X : qaX} {l : Launch} {Y : qaY} {fin : qaM} (hC : QC X l Y cX7_laysBack RX7 2 1) (hQ : QRv X Y fin) {m : qaM} {z : (qaM)} (hf : b_X7_laysBack_64 m = some z) (hK : (qa_eq fin) z) : QG X Y 2 m 64 [(0, .ref (Y.2.2.1 36))] [] := by
  unfold b_X7_laysBack_64 at hf
  refine qi_aload_n hC 0 rfl rfl dX7_laysBack_64 ?_
  refine qi_aload_n hC 0 rfl rfl dX7_laysBack_65 ?_
  refine qi_geti hC kf_X7_254 sh_36 rfl dX7_laysBack_66 ?_
  obtain ⟨m1, em1, hf⟩ := qa_lt_e hf
  refine qi_puti hC em1 kp_X7_94 sh_36 rfl rfl rfl dX7_laysBack_69 ?_
  refine qi_aload_n hC 0 rfl rfl dX7_laysBack_72 ?_
  refine qi_aload_n hC 0 rfl rfl dX7_laysBack_73 ?_
  refine qi_geti hC kf_X7_257 sh_36 rfl dX7_laysBack_74 ?_
  obtain ⟨m2, em2, hf⟩ := qa_lt_e hf
  refine qi_puti hC em2 kp_X7_97 sh_36 rfl rfl rfl dX7_laysBack_77 ?_
  obtain rfl := Option.some.inj hf
  exact qi_vret hC hQ hK dX7_laysBack_80
set_option maxRecDepth 100000 in
set_option maxHeartbeats 4000000 in
theorem t_X7_laysBack_40 {X : qaX} {l : Launch} {Y : qaY} {fin : qaM} (hC : QC X l Y cX7_laysBack RX7 2 1) (hQ : QRv X Y fin) {m : qaM} {v1 : Int32} {z : ((qaM × Int32) ⊕ (qaM))} (hf : b_X7_laysBack_40 m v1 = some z) (hK : (qa_K (fun s => QG X Y 2 s.1 40 [(0, .ref (Y.2.2.1 36)), (1, .int s.2)] []) (qa_eq fin)) z) : QG X Y 2 m 40 [(0, .ref (Y.2.2.1 36)), (1, .int v1)] [] := by
  unfold b_X7_laysBack_40 at hf
  refine qi_iload_n hC 1 rfl rfl dX7_laysBack_40 ?_
  refine qi_bipush hC dX7_laysBack_41 kn_bipush_9 ?_
  refine qi_icmp_ge (tgt := 64) hC (by decide) dX7_laysBack_43 (fun h => ?_) (fun h => ?_)
  · replace hf := qa_if_t h hf
    obtain ⟨z, rfl, hg⟩ := qa_inr_e hf; have hf := hg
    refine qi_sub hC [0] rfl ?_
    exact t_X7_laysBack_64 hC hQ hf hK
  · replace hf := qa_if_f h hf
    refine qi_aload_n hC 0 rfl rfl dX7_laysBack_46 ?_
    refine qi_getr hC kf_X7_19 sh_36 rfl dX7_laysBack_47 ?_
    refine qi_iload_n hC 1 rfl rfl dX7_laysBack_50 ?_
    refine qi_aload_n hC 0 rfl rfl dX7_laysBack_51 ?_
    refine qi_getr hC kf_X7_73 sh_36 rfl dX7_laysBack_52 ?_
    refine qi_iload_n hC 1 rfl rfl dX7_laysBack_55 ?_
    obtain ⟨h3, hf⟩ := qa_ck_e hf
    refine qi_iald hC rfl sh_58 (qa_in_v h3) dX7_laysBack_56 ?_
    obtain ⟨h4, hf⟩ := qa_ck_e hf
    obtain ⟨m5, em5, hf⟩ := qa_lt_e hf
    refine qi_iast hC rfl em5 sh_40 (qa_in_v h4) dX7_laysBack_57 ?_
    obtain ⟨x6, ex6, hf⟩ := qa_lt_e hf
    refine qi_iinc hC (n := 1) (v := x6) 1 rfl ((congrArg (fun q => v1 + q) kn_iconst_1).trans ex6.symm) (by decide) rfl dX7_laysBack_58 ?_
    refine qi_goto (tgt := 40) hC (by decide) dX7_laysBack_61 ?_
    obtain rfl := Option.some.inj hf
    refine qi_sub hC [1, 0] rfl ?_
    exact hK
set_option maxRecDepth 100000 in
set_option maxHeartbeats 4000000 in
theorem tn_X7_laysBack_40 {X : qaX} {l : Launch} {Y : qaY} {fin : qaM} (hC : QC X l Y cX7_laysBack RX7 2 1) (hQ : QRv X Y fin) {z : (qaM)} (hK : (qa_eq fin) z) : ∀ (n : Nat) (s : qaM × Int32), qa_lp (fun s => b_X7_laysBack_40 s.1 s.2) n s = some z → QG X Y 2 s.1 40 [(0, .ref (Y.2.2.1 36)), (1, .int s.2)] [] := by
  intro n
  induction n with
  | zero => intro s hf; cases hf
  | succ n ih =>
    intro s hf
    obtain ⟨y, hy, hf⟩ := qa_lp_e hf
    refine t_X7_laysBack_40 hC hQ hy ?_
    rcases hf with ⟨s', rfl, hf⟩ | rfl
    · exact ih s' hf
    · exact hK
set_option maxRecDepth 100000 in
set_option maxHeartbeats 4000000 in
theorem tl_X7_laysBack_40 {X : qaX} {l : Launch} {Y : qaY} {fin : qaM} (hC : QC X l Y cX7_laysBack RX7 2 1) (hQ : QRv X Y fin) {m : qaM} {v1 : Int32} {z : (qaM)} (hf : lp_X7_laysBack_40 m v1 = some z) (hK : (qa_eq fin) z) : QG X Y 2 m 40 [(0, .ref (Y.2.2.1 36)), (1, .int v1)] [] :=
  tn_X7_laysBack_40 hC hQ hK qa_F (m, v1) hf
set_option maxRecDepth 100000 in
set_option maxHeartbeats 4000000 in
theorem t_X7_laysBack_38 {X : qaX} {l : Launch} {Y : qaY} {fin : qaM} (hC : QC X l Y cX7_laysBack RX7 2 1) (hQ : QRv X Y fin) {m : qaM} {z : (qaM)} (hf : b_X7_laysBack_38 m = some z) (hK : (qa_eq fin) z) : QG X Y 2 m 38 [(0, .ref (Y.2.2.1 36))] [] := by
  unfold b_X7_laysBack_38 at hf
  refine qi_iconst hC dX7_laysBack_38 kn_iconst_0 ?_
  refine qi_istore_n hC rfl (by decide) rfl dX7_laysBack_39 ?_
  refine qi_sub hC [1, 0] rfl ?_
  exact tl_X7_laysBack_40 hC hQ hf hK
set_option maxRecDepth 100000 in
set_option maxHeartbeats 4000000 in
theorem t_X7_laysBack_2 {X : qaX} {l : Launch} {Y : qaY} {fin : qaM} (hC : QC X l Y cX7_laysBack RX7 2 1) (hQ : QRv X Y fin) {m : qaM} {v1 : Int32} {z : ((qaM × Int32) ⊕ (qaM))} (hf : b_X7_laysBack_2 m v1 = some z) (hK : (qa_K (fun s => QG X Y 2 s.1 2 [(0, .ref (Y.2.2.1 36)), (1, .int s.2)] []) (qa_eq fin)) z) : QG X Y 2 m 2 [(0, .ref (Y.2.2.1 36)), (1, .int v1)] [] := by
  unfold b_X7_laysBack_2 at hf
  refine qi_iload_n hC 1 rfl rfl dX7_laysBack_2 ?_
  refine qi_bipush hC dX7_laysBack_3 kn_bipush_48 ?_
  refine qi_icmp_ge (tgt := 38) hC (by decide) dX7_laysBack_5 (fun h => ?_) (fun h => ?_)
  · replace hf := qa_if_t h hf
    obtain ⟨z, rfl, hg⟩ := qa_inr_e hf; have hf := hg
    refine qi_sub hC [0] rfl ?_
    exact t_X7_laysBack_38 hC hQ hf hK
  · replace hf := qa_if_f h hf
    refine qi_aload_n hC 0 rfl rfl dX7_laysBack_8 ?_
    refine qi_getr hC kf_X7_76 sh_36 rfl dX7_laysBack_9 ?_
    refine qi_iload_n hC 1 rfl rfl dX7_laysBack_12 ?_
    refine qi_aload_n hC 0 rfl rfl dX7_laysBack_13 ?_
    refine qi_getr hC kf_X7_16 sh_36 rfl dX7_laysBack_14 ?_
    refine qi_iload_n hC 1 rfl rfl dX7_laysBack_17 ?_
    obtain ⟨h7, hf⟩ := qa_ck_e hf
    refine qi_iald hC rfl sh_39 (qa_in_v h7) dX7_laysBack_18 ?_
    obtain ⟨h8, hf⟩ := qa_ck_e hf
    obtain ⟨m9, em9, hf⟩ := qa_lt_e hf
    refine qi_iast hC rfl em9 sh_59 (qa_in_v h8) dX7_laysBack_19 ?_
    refine qi_aload_n hC 0 rfl rfl dX7_laysBack_20 ?_
    refine qi_getr hC kf_X7_16 sh_36 rfl dX7_laysBack_21 ?_
    refine qi_iload_n hC 1 rfl rfl dX7_laysBack_24 ?_
    refine qi_aload_n hC 0 rfl rfl dX7_laysBack_25 ?_
    refine qi_getr hC kf_X7_70 sh_36 rfl dX7_laysBack_26 ?_
    refine qi_iload_n hC 1 rfl rfl dX7_laysBack_29 ?_
    obtain ⟨h10, hf⟩ := qa_ck_e hf
    refine qi_iald hC rfl sh_57 (qa_in_v h10) dX7_laysBack_30 ?_
    obtain ⟨h11, hf⟩ := qa_ck_e hf
    obtain ⟨m12, em12, hf⟩ := qa_lt_e hf
    refine qi_iast hC rfl em12 sh_39 (qa_in_v h11) dX7_laysBack_31 ?_
    obtain ⟨x13, ex13, hf⟩ := qa_lt_e hf
    refine qi_iinc hC (n := 1) (v := x13) 1 rfl ((congrArg (fun q => v1 + q) kn_iconst_1).trans ex13.symm) (by decide) rfl dX7_laysBack_32 ?_
    refine qi_goto (tgt := 2) hC (by decide) dX7_laysBack_35 ?_
    obtain rfl := Option.some.inj hf
    refine qi_sub hC [1, 0] rfl ?_
    exact hK
set_option maxRecDepth 100000 in
set_option maxHeartbeats 4000000 in
theorem tn_X7_laysBack_2 {X : qaX} {l : Launch} {Y : qaY} {fin : qaM} (hC : QC X l Y cX7_laysBack RX7 2 1) (hQ : QRv X Y fin) {z : (qaM)} (hK : (qa_eq fin) z) : ∀ (n : Nat) (s : qaM × Int32), qa_lp (fun s => b_X7_laysBack_2 s.1 s.2) n s = some z → QG X Y 2 s.1 2 [(0, .ref (Y.2.2.1 36)), (1, .int s.2)] [] := by
  intro n
  induction n with
  | zero => intro s hf; cases hf
  | succ n ih =>
    intro s hf
    obtain ⟨y, hy, hf⟩ := qa_lp_e hf
    refine t_X7_laysBack_2 hC hQ hy ?_
    rcases hf with ⟨s', rfl, hf⟩ | rfl
    · exact ih s' hf
    · exact hK
set_option maxRecDepth 100000 in
set_option maxHeartbeats 4000000 in
theorem tl_X7_laysBack_2 {X : qaX} {l : Launch} {Y : qaY} {fin : qaM} (hC : QC X l Y cX7_laysBack RX7 2 1) (hQ : QRv X Y fin) {m : qaM} {v1 : Int32} {z : (qaM)} (hf : lp_X7_laysBack_2 m v1 = some z) (hK : (qa_eq fin) z) : QG X Y 2 m 2 [(0, .ref (Y.2.2.1 36)), (1, .int v1)] [] :=
  tn_X7_laysBack_2 hC hQ hK qa_F (m, v1) hf
set_option maxRecDepth 100000 in
set_option maxHeartbeats 4000000 in
theorem c_X7_laysBack (l : Launch) (Y : qaY) (m : qaM) (q : qaM) (hf : f_X7_laysBack m = some q) : qaMv l Y yX7_laysBack cX7_laysBack 2 1 [.ref (Y.2.2.1 36)] m q := by
  refine qa_entv (by decide +kernel) (Nat.le_of_ble_eq_true rfl) fun X hC hQ => ?_
  have hK : qa_eq q q := rfl
  unfold f_X7_laysBack at hf
  refine qi_iconst hC dX7_laysBack_0 kn_iconst_0 ?_
  refine qi_istore_n hC rfl (by decide) rfl dX7_laysBack_1 ?_
  refine qi_sub hC [1, 0] rfl ?_
  exact tl_X7_laysBack_2 hC hQ hf hK
set_option maxRecDepth 100000 in
set_option maxHeartbeats 4000000 in
theorem t_X7_goes_34 {X : qaX} {l : Launch} {Y : qaY} {fin : qaM} (hC : QC X l Y cX7_goes RX7 3 7) (hQ : QRv X Y fin) {m : qaM} {z : (qaM)} (hf : b_X7_goes_34 m = some z) (hK : (qa_eq fin) z) : QG X Y 3 m 34 [(0, .ref (Y.2.2.1 36))] [] := by
  unfold b_X7_goes_34 at hf
  refine qi_aload_n hC 0 rfl rfl dX7_goes_34 ?_
  obtain ⟨q2, hq2, hf⟩ := Option.bind_eq_some_iff.mp hf
  refine qi_callVv hC (as := []) (c_X7_laysBack _ _ _ _ hq2) kl_X7_263 sh_36 kc_X7_laysBack rfl rfl (by decide) (by decide) (Nat.le_of_ble_eq_true rfl) dX7_goes_35 ?_
  obtain rfl := Option.some.inj hf
  exact qi_vret hC hQ hK dX7_goes_38
set_option maxRecDepth 100000 in
set_option maxHeartbeats 4000000 in
theorem t_X7_goes_6 {X : qaX} {l : Launch} {Y : qaY} {fin : qaM} (hC : QC X l Y cX7_goes RX7 3 7) (hQ : QRv X Y fin) {m : qaM} {v1 : Int32} {v2 : Int32} {z : ((qaM × Int32) ⊕ (qaM))} (hf : b_X7_goes_6 m v1 v2 = some z) (hK : (qa_K (fun s => QG X Y 3 s.1 6 [(0, .ref (Y.2.2.1 36)), (1, .int v1), (2, .int s.2)] []) (qa_eq fin)) z) : QG X Y 3 m 6 [(0, .ref (Y.2.2.1 36)), (1, .int v1), (2, .int v2)] [] := by
  unfold b_X7_goes_6 at hf
  refine qi_iload_n hC 2 rfl rfl dX7_goes_6 ?_
  refine qi_iload_n hC 1 rfl rfl dX7_goes_7 ?_
  refine qi_icmp_ge (tgt := 34) hC (by decide) dX7_goes_8 (fun h => ?_) (fun h => ?_)
  · replace hf := qa_if_t h hf
    obtain ⟨z, rfl, hg⟩ := qa_inr_e hf; have hf := hg
    refine qi_sub hC [0] rfl ?_
    exact t_X7_goes_34 hC hQ hf hK
  · replace hf := qa_if_f h hf
    refine qi_aload_n hC 0 rfl rfl dX7_goes_11 ?_
    refine qi_iload_n hC 2 rfl rfl dX7_goes_12 ?_
    refine qi_aload_n hC 0 rfl rfl dX7_goes_13 ?_
    refine qi_getr hC kf_X7_22 sh_36 rfl dX7_goes_14 ?_
    refine qi_iconst hC dX7_goes_17 kn_iconst_0 ?_
    refine qi_iald hC tn_0 sh_41 vi_0_4 dX7_goes_18 ?_
    refine qi_aload_n hC 0 rfl rfl dX7_goes_19 ?_
    refine qi_getr hC kf_X7_22 sh_36 rfl dX7_goes_20 ?_
    refine qi_iconst hC dX7_goes_23 kn_iconst_2 ?_
    refine qi_iald hC tn_2 sh_41 vi_2_4 dX7_goes_24 ?_
    obtain ⟨q3, hq3, hf⟩ := Option.bind_eq_some_iff.mp hf
    refine qi_callVv hC (as := [.int v2, .int (m 41 0), .int (m 41 2)]) (c_X7_weekBy _ _ _ _ _ _ _ hq3) kl_X7_250 sh_36 kc_X7_weekBy rfl rfl (by decide) (by decide) (Nat.le_of_ble_eq_true rfl) dX7_goes_25 ?_
    obtain ⟨x4, ex4, hf⟩ := qa_lt_e hf
    refine qi_iinc hC (n := 1) (v := x4) 2 rfl ((congrArg (fun q => v2 + q) kn_iconst_1).trans ex4.symm) (by decide) rfl dX7_goes_28 ?_
    refine qi_goto (tgt := 6) hC (by decide) dX7_goes_31 ?_
    obtain rfl := Option.some.inj hf
    refine qi_sub hC [1, 2, 0] rfl ?_
    exact hK
set_option maxRecDepth 100000 in
set_option maxHeartbeats 4000000 in
theorem tn_X7_goes_6 {X : qaX} {l : Launch} {Y : qaY} {fin : qaM} (hC : QC X l Y cX7_goes RX7 3 7) (hQ : QRv X Y fin) {v1 : Int32} {z : (qaM)} (hK : (qa_eq fin) z) : ∀ (n : Nat) (s : qaM × Int32), qa_lp (fun s => b_X7_goes_6 s.1 v1 s.2) n s = some z → QG X Y 3 s.1 6 [(0, .ref (Y.2.2.1 36)), (1, .int v1), (2, .int s.2)] [] := by
  intro n
  induction n with
  | zero => intro s hf; cases hf
  | succ n ih =>
    intro s hf
    obtain ⟨y, hy, hf⟩ := qa_lp_e hf
    refine t_X7_goes_6 hC hQ hy ?_
    rcases hf with ⟨s', rfl, hf⟩ | rfl
    · exact ih s' hf
    · exact hK
set_option maxRecDepth 100000 in
set_option maxHeartbeats 4000000 in
theorem tl_X7_goes_6 {X : qaX} {l : Launch} {Y : qaY} {fin : qaM} (hC : QC X l Y cX7_goes RX7 3 7) (hQ : QRv X Y fin) {m : qaM} {v1 : Int32} {v2 : Int32} {z : (qaM)} (hf : lp_X7_goes_6 m v1 v2 = some z) (hK : (qa_eq fin) z) : QG X Y 3 m 6 [(0, .ref (Y.2.2.1 36)), (1, .int v1), (2, .int v2)] [] :=
  tn_X7_goes_6 hC hQ hK qa_F (m, v2) hf
set_option maxRecDepth 100000 in
set_option maxHeartbeats 4000000 in
theorem c_X7_goes (l : Launch) (Y : qaY) (m : qaM) (v1 : Int32) (q : qaM) (hf : f_X7_goes m v1 = some q) : qaMv l Y yX7_goes cX7_goes 3 7 [.ref (Y.2.2.1 36), .int v1] m q := by
  refine qa_entv (by decide +kernel) (Nat.le_of_ble_eq_true rfl) fun X hC hQ => ?_
  have hK : qa_eq q q := rfl
  unfold f_X7_goes at hf
  refine qi_aload_n hC 0 rfl rfl dX7_goes_0 ?_
  obtain ⟨q1, hq1, hf⟩ := Option.bind_eq_some_iff.mp hf
  refine qi_callVv hC (as := []) (c_X7_keeps _ _ _ _ hq1) kl_X7_260 sh_36 kc_X7_keeps rfl rfl (by decide) (by decide) (Nat.le_of_ble_eq_true rfl) dX7_goes_1 ?_
  refine qi_iconst hC dX7_goes_4 kn_iconst_0 ?_
  refine qi_istore_n hC rfl (by decide) rfl dX7_goes_5 ?_
  refine qi_sub hC [1, 2, 0] rfl ?_
  exact tl_X7_goes_6 hC hQ hf hK
set_option maxRecDepth 100000 in
set_option maxHeartbeats 4000000 in
theorem t_X7_leftMany_4 {X : qaX} {l : Launch} {Y : qaY} {fin : Int32} {m : qaM} (hC : QC X l Y cX7_leftMany RX7 3 1) (hQ : QRi X Y (some .int) m fin) {v1 : Int32} {v2 : Int32} {z : ((Int32 × Int32) ⊕ (Int32))} (hf : b_X7_leftMany_4 m v1 v2 = some z) (hK : (qa_K (fun s => QG X Y 3 m 4 [(0, .ref (Y.2.2.1 36)), (1, .int s.1), (2, .int s.2)] []) (qa_eq fin)) z) : QG X Y 3 m 4 [(0, .ref (Y.2.2.1 36)), (1, .int v1), (2, .int v2)] [] := by
  unfold b_X7_leftMany_4 at hf
  refine qi_iload_n hC 2 rfl rfl dX7_leftMany_4 ?_
  refine qi_aload_n hC 0 rfl rfl dX7_leftMany_5 ?_
  refine qi_geti hC kf_X7_87 sh_36 rfl dX7_leftMany_6 ?_
  refine qi_icmp_ge (tgt := 34) hC (by decide) dX7_leftMany_9 (fun h => ?_) (fun h => ?_)
  · replace hf := qa_if_t h hf
    refine qi_iload_n hC 1 rfl rfl dX7_leftMany_34 ?_
    obtain ⟨z, rfl, hg⟩ := qa_inr_e hf; have hf := hg
    obtain rfl := Option.some.inj hf
    exact qi_ireti hC hQ (congrArg (fun w => (w, m)) hK) dX7_leftMany_35
  · replace hf := qa_if_f h hf
    refine qi_iload_n hC 1 rfl rfl dX7_leftMany_12 ?_
    refine qi_iconst hC dX7_leftMany_13 kn_iconst_1 ?_
    refine qi_aload_n hC 0 rfl rfl dX7_leftMany_14 ?_
    refine qi_getr hC kf_X7_76 sh_36 rfl dX7_leftMany_15 ?_
    refine qi_bipush hC dX7_leftMany_18 kn_bipush_6 ?_
    refine qi_iload_n hC 2 rfl rfl dX7_leftMany_20 ?_
    refine qi_imul hC dX7_leftMany_21 ?_
    refine qi_iconst hC dX7_leftMany_22 kn_iconst_5 ?_
    refine qi_iadd hC dX7_leftMany_23 ?_
    obtain ⟨h1, hf⟩ := qa_ck_e hf
    refine qi_iald hC rfl sh_59 (qa_in_v h1) dX7_leftMany_24 ?_
    refine qi_isub hC dX7_leftMany_25 ?_
    refine qi_iadd hC dX7_leftMany_26 ?_
    obtain ⟨x2, ex2, hf⟩ := qa_lt_e hf
    refine qi_nmi hC ex2 ?_
    refine qi_istore_n hC rfl (by decide) rfl dX7_leftMany_27 ?_
    obtain ⟨x3, ex3, hf⟩ := qa_lt_e hf
    refine qi_iinc hC (n := 1) (v := x3) 2 rfl ((congrArg (fun q => v2 + q) kn_iconst_1).trans ex3.symm) (by decide) rfl dX7_leftMany_28 ?_
    refine qi_goto (tgt := 4) hC (by decide) dX7_leftMany_31 ?_
    obtain rfl := Option.some.inj hf
    refine qi_sub hC [2, 1, 0] rfl ?_
    exact hK
set_option maxRecDepth 100000 in
set_option maxHeartbeats 4000000 in
theorem tn_X7_leftMany_4 {X : qaX} {l : Launch} {Y : qaY} {fin : Int32} {m : qaM} (hC : QC X l Y cX7_leftMany RX7 3 1) (hQ : QRi X Y (some .int) m fin) {z : (Int32)} (hK : (qa_eq fin) z) : ∀ (n : Nat) (s : Int32 × Int32), qa_lp (fun s => b_X7_leftMany_4 m s.1 s.2) n s = some z → QG X Y 3 m 4 [(0, .ref (Y.2.2.1 36)), (1, .int s.1), (2, .int s.2)] [] := by
  intro n
  induction n with
  | zero => intro s hf; cases hf
  | succ n ih =>
    intro s hf
    obtain ⟨y, hy, hf⟩ := qa_lp_e hf
    refine t_X7_leftMany_4 hC hQ hy ?_
    rcases hf with ⟨s', rfl, hf⟩ | rfl
    · exact ih s' hf
    · exact hK
set_option maxRecDepth 100000 in
set_option maxHeartbeats 4000000 in
theorem tl_X7_leftMany_4 {X : qaX} {l : Launch} {Y : qaY} {fin : Int32} {m : qaM} (hC : QC X l Y cX7_leftMany RX7 3 1) (hQ : QRi X Y (some .int) m fin) {v1 : Int32} {v2 : Int32} {z : (Int32)} (hf : lp_X7_leftMany_4 m v1 v2 = some z) (hK : (qa_eq fin) z) : QG X Y 3 m 4 [(0, .ref (Y.2.2.1 36)), (1, .int v1), (2, .int v2)] [] :=
  tn_X7_leftMany_4 hC hQ hK qa_F (v1, v2) hf
set_option maxRecDepth 100000 in
set_option maxHeartbeats 4000000 in
theorem c_X7_leftMany (l : Launch) (Y : qaY) (m : qaM) (q : Int32) (hf : f_X7_leftMany m = some q) : qaMi l Y yX7_leftMany cX7_leftMany 3 (some .int) 1 [.ref (Y.2.2.1 36)] m m q := by
  refine qa_enti (by decide +kernel) (Nat.le_of_ble_eq_true rfl) fun X hC hQ => ?_
  have hK : qa_eq q q := rfl
  unfold f_X7_leftMany at hf
  refine qi_iconst hC dX7_leftMany_0 kn_iconst_0 ?_
  refine qi_istore_n hC rfl (by decide) rfl dX7_leftMany_1 ?_
  refine qi_iconst hC dX7_leftMany_2 kn_iconst_0 ?_
  refine qi_istore_n hC rfl (by decide) rfl dX7_leftMany_3 ?_
  refine qi_sub hC [2, 1, 0] rfl ?_
  exact tl_X7_leftMany_4 hC hQ hf hK
set_option maxRecDepth 100000 in
set_option maxHeartbeats 4000000 in
theorem t_X7_mostWorn_38 {X : qaX} {l : Launch} {Y : qaY} {fin : Int32} {m : qaM} (hC : QC X l Y cX7_mostWorn RX7 3 1) (hQ : QRi X Y (some .int) m fin) {v2 : Int32} {s0 : Int32} {z : ((Int32 × Int32) ⊕ (Int32))} (hf : b_X7_mostWorn_38 m v2 s0 = some z) (hK : (qa_K (fun s => QG X Y 3 m 4 [(0, .ref (Y.2.2.1 36)), (1, .int s.1), (2, .int s.2)] []) (qa_eq fin)) z) : QG X Y 3 m 38 [(0, .ref (Y.2.2.1 36)), (2, .int v2)] [.int s0] := by
  unfold b_X7_mostWorn_38 at hf
  refine qi_istore_n hC rfl (by decide) rfl dX7_mostWorn_38 ?_
  obtain ⟨x2, ex2, hf⟩ := qa_lt_e hf
  refine qi_iinc hC (n := 1) (v := x2) 2 rfl ((congrArg (fun q => v2 + q) kn_iconst_1).trans ex2.symm) (by decide) rfl dX7_mostWorn_39 ?_
  refine qi_goto (tgt := 4) hC (by decide) dX7_mostWorn_42 ?_
  obtain rfl := Option.some.inj hf
  refine qi_sub hC [2, 1, 0] rfl ?_
  exact hK
set_option maxRecDepth 100000 in
set_option maxHeartbeats 4000000 in
theorem t_X7_mostWorn_4 {X : qaX} {l : Launch} {Y : qaY} {fin : Int32} {m : qaM} (hC : QC X l Y cX7_mostWorn RX7 3 1) (hQ : QRi X Y (some .int) m fin) {v1 : Int32} {v2 : Int32} {z : ((Int32 × Int32) ⊕ (Int32))} (hf : b_X7_mostWorn_4 m v1 v2 = some z) (hK : (qa_K (fun s => QG X Y 3 m 4 [(0, .ref (Y.2.2.1 36)), (1, .int s.1), (2, .int s.2)] []) (qa_eq fin)) z) : QG X Y 3 m 4 [(0, .ref (Y.2.2.1 36)), (1, .int v1), (2, .int v2)] [] := by
  unfold b_X7_mostWorn_4 at hf
  refine qi_iload_n hC 2 rfl rfl dX7_mostWorn_4 ?_
  refine qi_aload_n hC 0 rfl rfl dX7_mostWorn_5 ?_
  refine qi_geti hC kf_X7_87 sh_36 rfl dX7_mostWorn_6 ?_
  refine qi_icmp_ge (tgt := 45) hC (by decide) dX7_mostWorn_9 (fun h => ?_) (fun h => ?_)
  · replace hf := qa_if_t h hf
    refine qi_iload_n hC 1 rfl rfl dX7_mostWorn_45 ?_
    obtain ⟨z, rfl, hg⟩ := qa_inr_e hf; have hf := hg
    obtain rfl := Option.some.inj hf
    exact qi_ireti hC hQ (congrArg (fun w => (w, m)) hK) dX7_mostWorn_46
  · replace hf := qa_if_f h hf
    refine qi_aload_n hC 0 rfl rfl dX7_mostWorn_12 ?_
    refine qi_getr hC kf_X7_76 sh_36 rfl dX7_mostWorn_13 ?_
    refine qi_bipush hC dX7_mostWorn_16 kn_bipush_6 ?_
    refine qi_iload_n hC 2 rfl rfl dX7_mostWorn_18 ?_
    refine qi_imul hC dX7_mostWorn_19 ?_
    obtain ⟨h1, hf⟩ := qa_ck_e hf
    refine qi_iald hC rfl sh_59 (qa_in_v h1) dX7_mostWorn_20 ?_
    refine qi_iload_n hC 1 rfl rfl dX7_mostWorn_21 ?_
    refine qi_icmp_le (tgt := 37) hC (by decide) dX7_mostWorn_22 (fun h => ?_) (fun h => ?_)
    · replace hf := qa_if_t h hf
      refine qi_iload_n hC 1 rfl rfl dX7_mostWorn_37 ?_
      refine qi_sub hC [0, 2] rfl ?_
      exact t_X7_mostWorn_38 hC hQ hf hK
    · replace hf := qa_if_f h hf
      refine qi_aload_n hC 0 rfl rfl dX7_mostWorn_25 ?_
      refine qi_getr hC kf_X7_76 sh_36 rfl dX7_mostWorn_26 ?_
      refine qi_bipush hC dX7_mostWorn_29 kn_bipush_6 ?_
      refine qi_iload_n hC 2 rfl rfl dX7_mostWorn_31 ?_
      refine qi_imul hC dX7_mostWorn_32 ?_
      obtain ⟨h3, hf⟩ := qa_ck_e hf
      refine qi_iald hC rfl sh_59 (qa_in_v h3) dX7_mostWorn_33 ?_
      refine qi_goto (tgt := 38) hC (by decide) dX7_mostWorn_34 ?_
      refine qi_sub hC [0, 2] rfl ?_
      exact t_X7_mostWorn_38 hC hQ hf hK
set_option maxRecDepth 100000 in
set_option maxHeartbeats 4000000 in
theorem tn_X7_mostWorn_4 {X : qaX} {l : Launch} {Y : qaY} {fin : Int32} {m : qaM} (hC : QC X l Y cX7_mostWorn RX7 3 1) (hQ : QRi X Y (some .int) m fin) {z : (Int32)} (hK : (qa_eq fin) z) : ∀ (n : Nat) (s : Int32 × Int32), qa_lp (fun s => b_X7_mostWorn_4 m s.1 s.2) n s = some z → QG X Y 3 m 4 [(0, .ref (Y.2.2.1 36)), (1, .int s.1), (2, .int s.2)] [] := by
  intro n
  induction n with
  | zero => intro s hf; cases hf
  | succ n ih =>
    intro s hf
    obtain ⟨y, hy, hf⟩ := qa_lp_e hf
    refine t_X7_mostWorn_4 hC hQ hy ?_
    rcases hf with ⟨s', rfl, hf⟩ | rfl
    · exact ih s' hf
    · exact hK
set_option maxRecDepth 100000 in
set_option maxHeartbeats 4000000 in
theorem tl_X7_mostWorn_4 {X : qaX} {l : Launch} {Y : qaY} {fin : Int32} {m : qaM} (hC : QC X l Y cX7_mostWorn RX7 3 1) (hQ : QRi X Y (some .int) m fin) {v1 : Int32} {v2 : Int32} {z : (Int32)} (hf : lp_X7_mostWorn_4 m v1 v2 = some z) (hK : (qa_eq fin) z) : QG X Y 3 m 4 [(0, .ref (Y.2.2.1 36)), (1, .int v1), (2, .int v2)] [] :=
  tn_X7_mostWorn_4 hC hQ hK qa_F (v1, v2) hf
set_option maxRecDepth 100000 in
set_option maxHeartbeats 4000000 in
theorem c_X7_mostWorn (l : Launch) (Y : qaY) (m : qaM) (q : Int32) (hf : f_X7_mostWorn m = some q) : qaMi l Y yX7_mostWorn cX7_mostWorn 3 (some .int) 1 [.ref (Y.2.2.1 36)] m m q := by
  refine qa_enti (by decide +kernel) (Nat.le_of_ble_eq_true rfl) fun X hC hQ => ?_
  have hK : qa_eq q q := rfl
  unfold f_X7_mostWorn at hf
  refine qi_iconst hC dX7_mostWorn_0 kn_iconst_m1 ?_
  refine qi_istore_n hC rfl (by decide) rfl dX7_mostWorn_1 ?_
  refine qi_iconst hC dX7_mostWorn_2 kn_iconst_0 ?_
  refine qi_istore_n hC rfl (by decide) rfl dX7_mostWorn_3 ?_
  refine qi_sub hC [2, 1, 0] rfl ?_
  exact tl_X7_mostWorn_4 hC hQ hf hK
set_option maxRecDepth 100000 in
set_option maxHeartbeats 4000000 in
theorem c_X7_run (l : Launch) (Y : qaY) (m : qaM) (v1 : Int32) (v2 : Int32) (q : Int32 × qaM) (hf : f_X7_run m v1 v2 = some q) : qaMi l Y yX7_run cX7_run 3 (some .int) 8 [.ref (Y.2.2.1 36), .int v1, .int v2] m q.2 q.1 := by
  refine qa_enti (by decide +kernel) (Nat.le_of_ble_eq_true rfl) fun X hC hQ => ?_
  have hK : qa_eq q q := rfl
  unfold f_X7_run at hf
  refine qi_iload_n hC 1 rfl rfl dX7_run_0 ?_
  obtain ⟨q1, hq1, hf⟩ := Option.bind_eq_some_iff.mp hf
  refine qi_callSi hC (as := [.int v1]) (c_X7_areWeeks _ _ _ _ _ hq1) kl_X7_266 kc_X7_areWeeks rfl rfl (by decide) (by decide) (Nat.le_of_ble_eq_true rfl) dX7_run_1 ?_
  refine qi_if_eq (tgt := 16) hC (by decide) dX7_run_4 (fun h => ?_) (fun h => ?_)
  · replace hf := qa_if_t h hf
    refine qi_bipush hC dX7_run_16 kn_bipush_m2 ?_
    obtain rfl := Option.some.inj hf
    exact qi_ireti hC hQ hK dX7_run_18
  · replace hf := qa_if_f h hf
    refine qi_iload_n hC 2 rfl rfl dX7_run_7 ?_
    refine qi_iconst hC dX7_run_8 kn_iconst_0 ?_
    refine qi_iconst hC dX7_run_9 kn_iconst_4 ?_
    obtain ⟨q2, hq2, hf⟩ := Option.bind_eq_some_iff.mp hf
    refine qi_callSi hC (as := [.int v2, .int (0 : Int32), .int (4 : Int32)]) (c_X7_in _ _ _ _ _ _ _ hq2) kl_X7_90 kc_X7_in rfl rfl (by decide) (by decide) (Nat.le_of_ble_eq_true rfl) dX7_run_10 ?_
    refine qi_if_ne (tgt := 19) hC (by decide) dX7_run_13 (fun h => ?_) (fun h => ?_)
    · replace hf := qa_if_f h hf
      refine qi_aload_n hC 0 rfl rfl dX7_run_19 ?_
      refine qi_iload_n hC 1 rfl rfl dX7_run_20 ?_
      obtain ⟨q3, hq3, hf⟩ := Option.bind_eq_some_iff.mp hf
      refine qi_callVv hC (as := [.int v1]) (c_X7_goes _ _ _ _ _ hq3) kl_X7_269 sh_36 kc_X7_goes rfl rfl (by decide) (by decide) (Nat.le_of_ble_eq_true rfl) dX7_run_21 ?_
      refine qi_iload_n hC 2 rfl rfl dX7_run_24 ?_
      refine qi_if_ne (tgt := 35) hC (by decide) dX7_run_25 (fun h => ?_) (fun h => ?_)
      · replace hf := qa_if_f h hf
        refine qi_iload_n hC 2 rfl rfl dX7_run_35 ?_
        refine qi_iconst hC dX7_run_36 kn_iconst_1 ?_
        refine qi_icmp_ne (tgt := 47) hC (by decide) dX7_run_37 (fun h => ?_) (fun h => ?_)
        · replace hf := qa_if_f h hf
          refine qi_iload_n hC 2 rfl rfl dX7_run_47 ?_
          refine qi_iconst hC dX7_run_48 kn_iconst_2 ?_
          refine qi_icmp_ne (tgt := 59) hC (by decide) dX7_run_49 (fun h => ?_) (fun h => ?_)
          · replace hf := qa_if_f h hf
            refine qi_iload_n hC 2 rfl rfl dX7_run_59 ?_
            refine qi_iconst hC dX7_run_60 kn_iconst_3 ?_
            refine qi_icmp_ne (tgt := 71) hC (by decide) dX7_run_61 (fun h => ?_) (fun h => ?_)
            · replace hf := qa_if_f h hf
              refine qi_aload_n hC 0 rfl rfl dX7_run_71 ?_
              obtain ⟨q4, hq4, hf⟩ := Option.bind_eq_some_iff.mp hf
              refine qi_callVi hC (as := []) (c_X7_mostWorn _ _ _ _ hq4) kl_X7_275 sh_36 kc_X7_mostWorn rfl rfl (by decide) (by decide) (Nat.le_of_ble_eq_true rfl) dX7_run_72 ?_
              obtain rfl := Option.some.inj hf
              exact qi_ireti hC hQ hK dX7_run_75
            · replace hf := qa_if_t h hf
              refine qi_aload_n hC 0 rfl rfl dX7_run_64 ?_
              refine qi_geti hC kf_X7_235 sh_36 rfl dX7_run_65 ?_
              refine qi_goto (tgt := 75) hC (by decide) dX7_run_68 ?_
              obtain rfl := Option.some.inj hf
              exact qi_ireti hC hQ hK dX7_run_75
          · replace hf := qa_if_t h hf
            refine qi_aload_n hC 0 rfl rfl dX7_run_52 ?_
            refine qi_geti hC kf_X7_214 sh_36 rfl dX7_run_53 ?_
            refine qi_goto (tgt := 75) hC (by decide) dX7_run_56 ?_
            obtain rfl := Option.some.inj hf
            exact qi_ireti hC hQ hK dX7_run_75
        · replace hf := qa_if_t h hf
          refine qi_aload_n hC 0 rfl rfl dX7_run_40 ?_
          refine qi_geti hC kf_X7_211 sh_36 rfl dX7_run_41 ?_
          refine qi_goto (tgt := 75) hC (by decide) dX7_run_44 ?_
          obtain rfl := Option.some.inj hf
          exact qi_ireti hC hQ hK dX7_run_75
      · replace hf := qa_if_t h hf
        refine qi_aload_n hC 0 rfl rfl dX7_run_28 ?_
        obtain ⟨q5, hq5, hf⟩ := Option.bind_eq_some_iff.mp hf
        refine qi_callVi hC (as := []) (c_X7_leftMany _ _ _ _ hq5) kl_X7_272 sh_36 kc_X7_leftMany rfl rfl (by decide) (by decide) (Nat.le_of_ble_eq_true rfl) dX7_run_29 ?_
        refine qi_goto (tgt := 75) hC (by decide) dX7_run_32 ?_
        obtain rfl := Option.some.inj hf
        exact qi_ireti hC hQ hK dX7_run_75
    · replace hf := qa_if_t h hf
      refine qi_bipush hC dX7_run_16 kn_bipush_m2 ?_
      obtain rfl := Option.some.inj hf
      exact qi_ireti hC hQ hK dX7_run_18
set_option maxRecDepth 100000 in
set_option maxHeartbeats 4000000 in
theorem c_X7_then (l : Launch) (Y : qaY) (m : qaM) (v1 : Int32) (v2 : Int32) (v3 : Int32) (q : Int32 × qaM) (hf : f_X7_then m v1 v2 v3 = some q) : qaMi l Y yX7_then cX7_then 4 (some .int) 8 [.ref (Y.2.2.1 36), .int v1, .int v2, .int v3] m q.2 q.1 := by
  refine qa_enti (by decide +kernel) (Nat.le_of_ble_eq_true rfl) fun X hC hQ => ?_
  have hK : qa_eq q q := rfl
  unfold f_X7_then at hf
  refine qi_aload_n hC 0 rfl rfl dX7_then_0 ?_
  refine qi_iload_n hC 1 rfl rfl dX7_then_1 ?_
  obtain ⟨q1, hq1, hf⟩ := Option.bind_eq_some_iff.mp hf
  refine qi_callVi hC (as := [.int v1]) (c_X7_isLinen _ _ _ _ _ hq1) kl_X7_187 sh_36 kc_X7_isLinen rfl rfl (by decide) (by decide) (Nat.le_of_ble_eq_true rfl) dX7_then_2 ?_
  refine qi_if_ne (tgt := 11) hC (by decide) dX7_then_5 (fun h => ?_) (fun h => ?_)
  · replace hf := qa_if_f h hf
    refine qi_iload_n hC 2 rfl rfl dX7_then_11 ?_
    obtain ⟨q2, hq2, hf⟩ := Option.bind_eq_some_iff.mp hf
    refine qi_callSi hC (as := [.int v2]) (c_X7_areWeeks _ _ _ _ _ hq2) kl_X7_266 kc_X7_areWeeks rfl rfl (by decide) (by decide) (Nat.le_of_ble_eq_true rfl) dX7_then_12 ?_
    refine qi_if_eq (tgt := 27) hC (by decide) dX7_then_15 (fun h => ?_) (fun h => ?_)
    · replace hf := qa_if_t h hf
      refine qi_bipush hC dX7_then_27 kn_bipush_m7 ?_
      obtain rfl := Option.some.inj hf
      exact qi_ireti hC hQ hK dX7_then_29
    · replace hf := qa_if_f h hf
      refine qi_iload_n hC 3 rfl rfl dX7_then_18 ?_
      refine qi_iconst hC dX7_then_19 kn_iconst_0 ?_
      refine qi_iconst hC dX7_then_20 kn_iconst_1 ?_
      obtain ⟨q3, hq3, hf⟩ := Option.bind_eq_some_iff.mp hf
      refine qi_callSi hC (as := [.int v3, .int (0 : Int32), .int (1 : Int32)]) (c_X7_in _ _ _ _ _ _ _ hq3) kl_X7_90 kc_X7_in rfl rfl (by decide) (by decide) (Nat.le_of_ble_eq_true rfl) dX7_then_21 ?_
      refine qi_if_ne (tgt := 30) hC (by decide) dX7_then_24 (fun h => ?_) (fun h => ?_)
      · replace hf := qa_if_f h hf
        refine qi_aload_n hC 0 rfl rfl dX7_then_30 ?_
        refine qi_iload_n hC 2 rfl rfl dX7_then_31 ?_
        obtain ⟨q4, hq4, hf⟩ := Option.bind_eq_some_iff.mp hf
        refine qi_callVv hC (as := [.int v2]) (c_X7_goes _ _ _ _ _ hq4) kl_X7_269 sh_36 kc_X7_goes rfl rfl (by decide) (by decide) (Nat.le_of_ble_eq_true rfl) dX7_then_32 ?_
        refine qi_aload_n hC 0 rfl rfl dX7_then_35 ?_
        refine qi_getr hC kf_X7_76 sh_36 rfl dX7_then_36 ?_
        refine qi_bipush hC dX7_then_39 kn_bipush_6 ?_
        refine qi_iload_n hC 1 rfl rfl dX7_then_41 ?_
        refine qi_imul hC dX7_then_42 ?_
        refine qi_iload_n hC 3 rfl rfl dX7_then_43 ?_
        refine qi_iadd hC dX7_then_44 ?_
        obtain ⟨h5, hf⟩ := qa_ck_e hf
        refine qi_iald hC rfl sh_59 (qa_in_v h5) dX7_then_45 ?_
        obtain rfl := Option.some.inj hf
        exact qi_ireti hC hQ hK dX7_then_46
      · replace hf := qa_if_t h hf
        refine qi_bipush hC dX7_then_27 kn_bipush_m7 ?_
        obtain rfl := Option.some.inj hf
        exact qi_ireti hC hQ hK dX7_then_29
  · replace hf := qa_if_t h hf
    refine qi_bipush hC dX7_then_8 kn_bipush_m5 ?_
    obtain rfl := Option.some.inj hf
    exact qi_ireti hC hQ hK dX7_then_10
set_option maxRecDepth 100000 in
set_option maxHeartbeats 4000000 in
theorem c_X7_cost (l : Launch) (Y : qaY) (m : qaM) (v1 : Int32) (q : Int32 × qaM) (hf : f_X7_cost m v1 = some q) : qaMi l Y yX7_cost cX7_cost 2 (some .int) 8 [.ref (Y.2.2.1 36), .int v1] m q.2 q.1 := by
  refine qa_enti (by decide +kernel) (Nat.le_of_ble_eq_true rfl) fun X hC hQ => ?_
  have hK : qa_eq q q := rfl
  unfold f_X7_cost at hf
  refine qi_iload_n hC 1 rfl rfl dX7_cost_0 ?_
  obtain ⟨q1, hq1, hf⟩ := Option.bind_eq_some_iff.mp hf
  refine qi_callSi hC (as := [.int v1]) (c_X7_areWeeks _ _ _ _ _ hq1) kl_X7_266 kc_X7_areWeeks rfl rfl (by decide) (by decide) (Nat.le_of_ble_eq_true rfl) dX7_cost_1 ?_
  refine qi_if_ne (tgt := 10) hC (by decide) dX7_cost_4 (fun h => ?_) (fun h => ?_)
  · replace hf := qa_if_f h hf
    refine qi_aload_n hC 0 rfl rfl dX7_cost_10 ?_
    refine qi_iload_n hC 1 rfl rfl dX7_cost_11 ?_
    obtain ⟨q2, hq2, hf⟩ := Option.bind_eq_some_iff.mp hf
    refine qi_callVv hC (as := [.int v1]) (c_X7_goes _ _ _ _ _ hq2) kl_X7_269 sh_36 kc_X7_goes rfl rfl (by decide) (by decide) (Nat.le_of_ble_eq_true rfl) dX7_cost_12 ?_
    refine qi_aload_n hC 0 rfl rfl dX7_cost_15 ?_
    refine qi_geti hC kf_X7_214 sh_36 rfl dX7_cost_16 ?_
    refine qi_aload_n hC 0 rfl rfl dX7_cost_19 ?_
    refine qi_iconst hC dX7_cost_20 kn_iconst_2 ?_
    refine qi_iconst hC dX7_cost_21 kn_iconst_0 ?_
    refine qi_iconst hC dX7_cost_22 kn_iconst_0 ?_
    refine qi_iconst hC dX7_cost_23 kn_iconst_0 ?_
    refine qi_iconst hC dX7_cost_24 kn_iconst_0 ?_
    obtain ⟨q3, hq3, hf⟩ := Option.bind_eq_some_iff.mp hf
    refine qi_callVi hC (as := [.int (2 : Int32), .int (0 : Int32), .int (0 : Int32), .int (0 : Int32), .int (0 : Int32)]) (c_X7_asksOf _ _ _ _ _ _ _ _ _ hq3) kl_X7_176 sh_36 kc_X7_asksOf rfl rfl (by decide) (by decide) (Nat.le_of_ble_eq_true rfl) dX7_cost_25 ?_
    refine qi_imul hC dX7_cost_28 ?_
    obtain rfl := Option.some.inj hf
    exact qi_ireti hC hQ hK dX7_cost_29
  · replace hf := qa_if_t h hf
    refine qi_bipush hC dX7_cost_7 kn_bipush_m2 ?_
    obtain rfl := Option.some.inj hf
    exact qi_ireti hC hQ hK dX7_cost_9
set_option maxRecDepth 100000 in
set_option maxHeartbeats 4000000 in
theorem t_X7_rules_215 {X : qaX} {l : Launch} {Y : qaY} {fin : Int32 × qaM} (hC : QC X l Y cX7_rules RX7 12 8) (hQ : QRi X Y (some .int) fin.2 fin.1) {m : qaM} {v3 : Int32} {v4 : Int32} {v5 : Int32} {z : (Int32 × qaM)} (hf : b_X7_rules_215 m v3 v4 v5 = some z) (hK : (qa_eq fin) z) : QG X Y 12 m 215 [(0, .ref (Y.2.2.1 36)), (3, .int v3), (4, .int v4), (5, .int v5)] [] := by
  unfold b_X7_rules_215 at hf
  refine qi_aload_n hC 0 rfl rfl dX7_rules_215 ?_
  refine qi_getr hC kf_X7_22 sh_36 rfl dX7_rules_216 ?_
  refine qi_iconst hC dX7_rules_219 kn_iconst_2 ?_
  refine qi_iload_n hC 1 rfl rfl dX7_rules_220 ?_
  obtain ⟨m5, em5, hf⟩ := qa_lt_e hf
  refine qi_iast hC tn_2 em5 sh_41 vi_2_4 dX7_rules_221 ?_
  refine qi_aload_n hC 0 rfl rfl dX7_rules_222 ?_
  refine qi_getr hC kf_X7_22 sh_36 rfl dX7_rules_223 ?_
  refine qi_iconst hC dX7_rules_226 kn_iconst_3 ?_
  refine qi_iload hC 2 rfl dX7_rules_227 ?_
  obtain ⟨m6, em6, hf⟩ := qa_lt_e hf
  refine qi_iast hC tn_3 em6 sh_41 vi_3_4 dX7_rules_229 ?_
  refine qi_iload hC 3 rfl dX7_rules_230 ?_
  obtain rfl := Option.some.inj hf
  exact qi_ireti hC hQ hK dX7_rules_232
set_option maxRecDepth 100000 in
set_option maxHeartbeats 4000000 in
theorem t_X7_rules_207 {X : qaX} {l : Launch} {Y : qaY} {fin : Int32 × qaM} (hC : QC X l Y cX7_rules RX7 12 8) (hQ : QRi X Y (some .int) fin.2 fin.1) {m : qaM} {v1 : Int32} {v2 : Int32} {v3 : Int32} {v4 : Int32} {v5 : Int32} {v6 : Int32} {v8 : Int32} {s0 : Int32} {z : ((qaM × Int32 × Int32 × Int32 × Int32) ⊕ (Int32 × qaM))} (hf : b_X7_rules_207 m v1 v2 v3 v4 v5 v6 v8 s0 = some z) (hK : (qa_K (fun s => QG X Y 12 s.1 46 [(0, .ref (Y.2.2.1 36)), (1, .int v1), (2, .int v2), (3, .int v3), (4, .int v4), (5, .int s.2.1), (6, .int s.2.2.1), (7, .int s.2.2.2.1), (8, .int s.2.2.2.2)] []) (qa_eq fin)) z) : QG X Y 12 m 207 [(0, .ref (Y.2.2.1 36)), (1, .int v1), (2, .int v2), (3, .int v3), (4, .int v4), (5, .int v5), (6, .int v6), (8, .int v8)] [.int s0] := by
  unfold b_X7_rules_207 at hf
  refine qi_istore hC (by decide) rfl dX7_rules_207 ?_
  obtain ⟨x10, ex10, hf⟩ := qa_lt_e hf
  refine qi_iinc hC (n := 1) (v := x10) 8 rfl ((congrArg (fun q => v8 + q) kn_iconst_1).trans ex10.symm) (by decide) rfl dX7_rules_209 ?_
  refine qi_goto (tgt := 46) hC (by decide) dX7_rules_212 ?_
  obtain rfl := Option.some.inj hf
  refine qi_sub hC [2, 3, 4, 5, 6, 7, 8, 1, 0] rfl ?_
  exact hK
set_option maxRecDepth 100000 in
set_option maxHeartbeats 4000000 in
theorem t_X7_rules_193 {X : qaX} {l : Launch} {Y : qaY} {fin : Int32 × qaM} (hC : QC X l Y cX7_rules RX7 12 8) (hQ : QRi X Y (some .int) fin.2 fin.1) {m : qaM} {v1 : Int32} {v2 : Int32} {v3 : Int32} {v4 : Int32} {v5 : Int32} {v7 : Int32} {v8 : Int32} {v10 : Int32} {v11 : Int32} {s0 : Int32} {z : ((qaM × Int32 × Int32 × Int32 × Int32) ⊕ (Int32 × qaM))} (hf : b_X7_rules_193 m v1 v2 v3 v4 v5 v7 v8 v10 v11 s0 = some z) (hK : (qa_K (fun s => QG X Y 12 s.1 46 [(0, .ref (Y.2.2.1 36)), (1, .int v1), (2, .int v2), (3, .int v3), (4, .int v4), (5, .int s.2.1), (6, .int s.2.2.1), (7, .int s.2.2.2.1), (8, .int s.2.2.2.2)] []) (qa_eq fin)) z) : QG X Y 12 m 193 [(0, .ref (Y.2.2.1 36)), (1, .int v1), (2, .int v2), (3, .int v3), (4, .int v4), (5, .int v5), (7, .int v7), (8, .int v8), (10, .int v10), (11, .int v11)] [.int s0] := by
  unfold b_X7_rules_193 at hf
  refine qi_istore hC (by decide) rfl dX7_rules_193 ?_
  refine qi_iload hC 10 rfl dX7_rules_195 ?_
  refine qi_if_eq (tgt := 205) hC (by decide) dX7_rules_197 (fun h => ?_) (fun h => ?_)
  · replace hf := qa_if_t h hf
    refine qi_iload hC 7 rfl dX7_rules_205 ?_
    refine qi_sub hC [1, 2, 3, 4, 5, 6, 0, 8] rfl ?_
    exact t_X7_rules_207 hC hQ hf hK
  · replace hf := qa_if_f h hf
    refine qi_iload hC 9 rfl dX7_rules_200 ?_
    refine qi_goto (tgt := 207) hC (by decide) dX7_rules_202 ?_
    refine qi_sub hC [1, 2, 3, 4, 5, 6, 0, 8] rfl ?_
    exact t_X7_rules_207 hC hQ hf hK
set_option maxRecDepth 100000 in
set_option maxHeartbeats 4000000 in
theorem t_X7_rules_179 {X : qaX} {l : Launch} {Y : qaY} {fin : Int32 × qaM} (hC : QC X l Y cX7_rules RX7 12 8) (hQ : QRi X Y (some .int) fin.2 fin.1) {m : qaM} {v1 : Int32} {v2 : Int32} {v3 : Int32} {v4 : Int32} {v6 : Int32} {v7 : Int32} {v8 : Int32} {v9 : Int32} {v10 : Int32} {v11 : Int32} {s0 : Int32} {z : ((qaM × Int32 × Int32 × Int32 × Int32) ⊕ (Int32 × qaM))} (hf : b_X7_rules_179 m v1 v2 v3 v4 v6 v7 v8 v9 v10 v11 s0 = some z) (hK : (qa_K (fun s => QG X Y 12 s.1 46 [(0, .ref (Y.2.2.1 36)), (1, .int v1), (2, .int v2), (3, .int v3), (4, .int v4), (5, .int s.2.1), (6, .int s.2.2.1), (7, .int s.2.2.2.1), (8, .int s.2.2.2.2)] []) (qa_eq fin)) z) : QG X Y 12 m 179 [(0, .ref (Y.2.2.1 36)), (1, .int v1), (2, .int v2), (3, .int v3), (4, .int v4), (6, .int v6), (7, .int v7), (8, .int v8), (9, .int v9), (10, .int v10), (11, .int v11)] [.int s0] := by
  unfold b_X7_rules_179 at hf
  refine qi_istore hC (by decide) rfl dX7_rules_179 ?_
  refine qi_iload hC 11 rfl dX7_rules_181 ?_
  refine qi_if_eq (tgt := 191) hC (by decide) dX7_rules_183 (fun h => ?_) (fun h => ?_)
  · replace hf := qa_if_t h hf
    refine qi_iload hC 6 rfl dX7_rules_191 ?_
    refine qi_sub hC [1, 2, 3, 4, 5, 0, 7, 8, 10, 11] rfl ?_
    exact t_X7_rules_193 hC hQ hf hK
  · replace hf := qa_if_f h hf
    refine qi_iload hC 9 rfl dX7_rules_186 ?_
    refine qi_goto (tgt := 193) hC (by decide) dX7_rules_188 ?_
    refine qi_sub hC [1, 2, 3, 4, 5, 0, 7, 8, 10, 11] rfl ?_
    exact t_X7_rules_193 hC hQ hf hK
set_option maxRecDepth 100000 in
set_option maxHeartbeats 4000000 in
theorem t_X7_rules_155 {X : qaX} {l : Launch} {Y : qaY} {fin : Int32 × qaM} (hC : QC X l Y cX7_rules RX7 12 8) (hQ : QRi X Y (some .int) fin.2 fin.1) {m : qaM} {v1 : Int32} {v2 : Int32} {v3 : Int32} {v4 : Int32} {v5 : Int32} {v6 : Int32} {v7 : Int32} {v8 : Int32} {v9 : Int32} {v10 : Int32} {s0 : Int32} {z : ((qaM × Int32 × Int32 × Int32 × Int32) ⊕ (Int32 × qaM))} (hf : b_X7_rules_155 m v1 v2 v3 v4 v5 v6 v7 v8 v9 v10 s0 = some z) (hK : (qa_K (fun s => QG X Y 12 s.1 46 [(0, .ref (Y.2.2.1 36)), (1, .int v1), (2, .int v2), (3, .int v3), (4, .int v4), (5, .int s.2.1), (6, .int s.2.2.1), (7, .int s.2.2.2.1), (8, .int s.2.2.2.2)] []) (qa_eq fin)) z) : QG X Y 12 m 155 [(0, .ref (Y.2.2.1 36)), (1, .int v1), (2, .int v2), (3, .int v3), (4, .int v4), (5, .int v5), (6, .int v6), (7, .int v7), (8, .int v8), (9, .int v9), (10, .int v10)] [.int s0] := by
  unfold b_X7_rules_155 at hf
  refine qi_istore hC (by decide) rfl dX7_rules_155 ?_
  refine qi_iload hC 0 rfl dX7_rules_157 ?_
  refine qi_if_eq (tgt := 177) hC (by decide) dX7_rules_159 (fun h => ?_) (fun h => ?_)
  · replace hf := qa_if_t h hf
    refine qi_iload hC 6 rfl dX7_rules_177 ?_
    refine qi_sub hC [1, 2, 3, 4, 5, 7, 8, 9, 10, 11, 0] rfl ?_
    exact t_X7_rules_179 hC hQ hf hK
  · replace hf := qa_if_f h hf
    refine qi_bipush hC dX7_rules_162 kn_bipush_10 ?_
    refine qi_iload hC 9 rfl dX7_rules_164 ?_
    refine qi_iconst hC dX7_rules_166 kn_iconst_3 ?_
    refine qi_idiv hC (by decide) dX7_rules_167 ?_
    refine qi_imul hC dX7_rules_168 ?_
    refine qi_iload hC 9 rfl dX7_rules_169 ?_
    refine qi_iconst hC dX7_rules_171 kn_iconst_3 ?_
    refine qi_irem hC (by decide) dX7_rules_172 ?_
    refine qi_iadd hC dX7_rules_173 ?_
    refine qi_goto (tgt := 179) hC (by decide) dX7_rules_174 ?_
    refine qi_sub hC [1, 2, 3, 4, 5, 7, 8, 9, 10, 11, 0] rfl ?_
    exact t_X7_rules_179 hC hQ hf hK
set_option maxRecDepth 100000 in
set_option maxHeartbeats 4000000 in
theorem t_X7_rules_150 {X : qaX} {l : Launch} {Y : qaY} {fin : Int32 × qaM} (hC : QC X l Y cX7_rules RX7 12 8) (hQ : QRi X Y (some .int) fin.2 fin.1) {m : qaM} {v1 : Int32} {v2 : Int32} {v3 : Int32} {v4 : Int32} {v5 : Int32} {v6 : Int32} {v7 : Int32} {v8 : Int32} {v9 : Int32} {v10 : Int32} {z : ((qaM × Int32 × Int32 × Int32 × Int32) ⊕ (Int32 × qaM))} (hf : b_X7_rules_150 m v1 v2 v3 v4 v5 v6 v7 v8 v9 v10 = some z) (hK : (qa_K (fun s => QG X Y 12 s.1 46 [(0, .ref (Y.2.2.1 36)), (1, .int v1), (2, .int v2), (3, .int v3), (4, .int v4), (5, .int s.2.1), (6, .int s.2.2.1), (7, .int s.2.2.2.1), (8, .int s.2.2.2.2)] []) (qa_eq fin)) z) : QG X Y 12 m 150 [(0, .ref (Y.2.2.1 36)), (1, .int v1), (2, .int v2), (3, .int v3), (4, .int v4), (5, .int v5), (6, .int v6), (7, .int v7), (8, .int v8), (9, .int v9), (10, .int v10)] [] := by
  unfold b_X7_rules_150 at hf
  refine qi_iconst hC dX7_rules_150 kn_iconst_1 ?_
  refine qi_goto (tgt := 155) hC (by decide) dX7_rules_151 ?_
  exact t_X7_rules_155 hC hQ hf hK
set_option maxRecDepth 100000 in
set_option maxHeartbeats 4000000 in
theorem t_X7_rules_154 {X : qaX} {l : Launch} {Y : qaY} {fin : Int32 × qaM} (hC : QC X l Y cX7_rules RX7 12 8) (hQ : QRi X Y (some .int) fin.2 fin.1) {m : qaM} {v1 : Int32} {v2 : Int32} {v3 : Int32} {v4 : Int32} {v5 : Int32} {v6 : Int32} {v7 : Int32} {v8 : Int32} {v9 : Int32} {v10 : Int32} {z : ((qaM × Int32 × Int32 × Int32 × Int32) ⊕ (Int32 × qaM))} (hf : b_X7_rules_154 m v1 v2 v3 v4 v5 v6 v7 v8 v9 v10 = some z) (hK : (qa_K (fun s => QG X Y 12 s.1 46 [(0, .ref (Y.2.2.1 36)), (1, .int v1), (2, .int v2), (3, .int v3), (4, .int v4), (5, .int s.2.1), (6, .int s.2.2.1), (7, .int s.2.2.2.1), (8, .int s.2.2.2.2)] []) (qa_eq fin)) z) : QG X Y 12 m 154 [(0, .ref (Y.2.2.1 36)), (1, .int v1), (2, .int v2), (3, .int v3), (4, .int v4), (5, .int v5), (6, .int v6), (7, .int v7), (8, .int v8), (9, .int v9), (10, .int v10)] [] := by
  unfold b_X7_rules_154 at hf
  refine qi_iconst hC dX7_rules_154 kn_iconst_0 ?_
  exact t_X7_rules_155 hC hQ hf hK
set_option maxRecDepth 100000 in
set_option maxHeartbeats 4000000 in
theorem t_X7_rules_121 {X : qaX} {l : Launch} {Y : qaY} {fin : Int32 × qaM} (hC : QC X l Y cX7_rules RX7 12 8) (hQ : QRi X Y (some .int) fin.2 fin.1) {m : qaM} {v1 : Int32} {v2 : Int32} {v3 : Int32} {v4 : Int32} {v5 : Int32} {v6 : Int32} {v7 : Int32} {v8 : Int32} {v9 : Int32} {s0 : Int32} {z : ((qaM × Int32 × Int32 × Int32 × Int32) ⊕ (Int32 × qaM))} (hf : b_X7_rules_121 m v1 v2 v3 v4 v5 v6 v7 v8 v9 s0 = some z) (hK : (qa_K (fun s => QG X Y 12 s.1 46 [(0, .ref (Y.2.2.1 36)), (1, .int v1), (2, .int v2), (3, .int v3), (4, .int v4), (5, .int s.2.1), (6, .int s.2.2.1), (7, .int s.2.2.2.1), (8, .int s.2.2.2.2)] []) (qa_eq fin)) z) : QG X Y 12 m 121 [(0, .ref (Y.2.2.1 36)), (1, .int v1), (2, .int v2), (3, .int v3), (4, .int v4), (5, .int v5), (6, .int v6), (7, .int v7), (8, .int v8), (9, .int v9)] [.int s0] := by
  unfold b_X7_rules_121 at hf
  refine qi_istore hC (by decide) rfl dX7_rules_121 ?_
  refine qi_iload hC 6 rfl dX7_rules_123 ?_
  refine qi_iconst hC dX7_rules_125 kn_iconst_m1 ?_
  refine qi_icmp_eq (tgt := 150) hC (by decide) dX7_rules_126 (fun h => ?_) (fun h => ?_)
  · replace hf := qa_if_t h hf
    refine qi_sub hC [1, 2, 3, 4, 5, 6, 7, 8, 9, 10, 0] rfl ?_
    exact t_X7_rules_150 hC hQ hf hK
  · replace hf := qa_if_f h hf
    refine qi_iload hC 10 rfl dX7_rules_129 ?_
    refine qi_iload hC 7 rfl dX7_rules_131 ?_
    refine qi_icmp_gt (tgt := 150) hC (by decide) dX7_rules_133 (fun h => ?_) (fun h => ?_)
    · replace hf := qa_if_t h hf
      refine qi_sub hC [1, 2, 3, 4, 5, 6, 7, 8, 9, 10, 0] rfl ?_
      exact t_X7_rules_150 hC hQ hf hK
    · replace hf := qa_if_f h hf
      refine qi_iload hC 10 rfl dX7_rules_136 ?_
      refine qi_iload hC 7 rfl dX7_rules_138 ?_
      refine qi_icmp_ne (tgt := 154) hC (by decide) dX7_rules_140 (fun h => ?_) (fun h => ?_)
      · replace hf := qa_if_f h hf
        refine qi_sub hC [1, 2, 3, 4, 5, 6, 7, 8, 9, 10, 0] rfl ?_
        exact t_X7_rules_154 hC hQ hf hK
      · replace hf := qa_if_t h hf
        refine qi_iload hC 0 rfl dX7_rules_143 ?_
        refine qi_iload hC 8 rfl dX7_rules_145 ?_
        refine qi_icmp_le (tgt := 154) hC (by decide) dX7_rules_147 (fun h => ?_) (fun h => ?_)
        · replace hf := qa_if_t h hf
          refine qi_sub hC [1, 2, 3, 4, 5, 6, 7, 8, 9, 10, 0] rfl ?_
          exact t_X7_rules_154 hC hQ hf hK
        · replace hf := qa_if_f h hf
          refine qi_sub hC [1, 2, 3, 4, 5, 6, 7, 8, 9, 10, 0] rfl ?_
          exact t_X7_rules_150 hC hQ hf hK
set_option maxRecDepth 100000 in
set_option maxHeartbeats 4000000 in
theorem t_X7_rules_94 {X : qaX} {l : Launch} {Y : qaY} {fin : Int32 × qaM} (hC : QC X l Y cX7_rules RX7 12 8) (hQ : QRi X Y (some .int) fin.2 fin.1) {m : qaM} {v1 : Int32} {v2 : Int32} {v3 : Int32} {v4 : Int32} {v5 : Int32} {v6 : Int32} {v7 : Int32} {v8 : Int32} {s0 : Int32} {z : ((qaM × Int32 × Int32 × Int32 × Int32) ⊕ (Int32 × qaM))} (hf : b_X7_rules_94 m v1 v2 v3 v4 v5 v6 v7 v8 s0 = some z) (hK : (qa_K (fun s => QG X Y 12 s.1 46 [(0, .ref (Y.2.2.1 36)), (1, .int v1), (2, .int v2), (3, .int v3), (4, .int v4), (5, .int s.2.1), (6, .int s.2.2.1), (7, .int s.2.2.2.1), (8, .int s.2.2.2.2)] []) (qa_eq fin)) z) : QG X Y 12 m 94 [(0, .ref (Y.2.2.1 36)), (1, .int v1), (2, .int v2), (3, .int v3), (4, .int v4), (5, .int v5), (6, .int v6), (7, .int v7), (8, .int v8)] [.int s0] := by
  unfold b_X7_rules_94 at hf
  refine qi_istore hC (by decide) rfl dX7_rules_94 ?_
  refine qi_iload_n hC 3 rfl rfl dX7_rules_96 ?_
  refine qi_iconst hC dX7_rules_97 kn_iconst_1 ?_
  refine qi_icmp_ne (tgt := 105) hC (by decide) dX7_rules_98 (fun h => ?_) (fun h => ?_)
  · replace hf := qa_if_f h hf
    refine qi_aload_n hC 1 rfl rfl dX7_rules_105 ?_
    refine qi_geti hC kf_X7_211 sh_36 rfl dX7_rules_106 ?_
    refine qi_iconst hC dX7_rules_109 kn_iconst_m1 ?_
    refine qi_icmp_ne (tgt := 117) hC (by decide) dX7_rules_110 (fun h => ?_) (fun h => ?_)
    · replace hf := qa_if_f h hf
      refine qi_aload_n hC 1 rfl rfl dX7_rules_117 ?_
      refine qi_geti hC kf_X7_211 sh_36 rfl dX7_rules_118 ?_
      refine qi_sub hC [1, 2, 3, 4, 5, 6, 7, 8, 9, 0] rfl ?_
      exact t_X7_rules_121 hC hQ hf hK
    · replace hf := qa_if_t h hf
      refine qi_iload_n hC 2 rfl rfl dX7_rules_113 ?_
      refine qi_goto (tgt := 121) hC (by decide) dX7_rules_114 ?_
      refine qi_sub hC [1, 2, 3, 4, 5, 6, 7, 8, 9, 0] rfl ?_
      exact t_X7_rules_121 hC hQ hf hK
  · replace hf := qa_if_t h hf
    refine qi_iconst hC dX7_rules_101 kn_iconst_0 ?_
    refine qi_goto (tgt := 121) hC (by decide) dX7_rules_102 ?_
    refine qi_sub hC [1, 2, 3, 4, 5, 6, 7, 8, 9, 0] rfl ?_
    exact t_X7_rules_121 hC hQ hf hK
set_option maxRecDepth 100000 in
set_option maxHeartbeats 4000000 in
theorem t_X7_rules_46 {X : qaX} {l : Launch} {Y : qaY} {fin : Int32 × qaM} (hC : QC X l Y cX7_rules RX7 12 8) (hQ : QRi X Y (some .int) fin.2 fin.1) {m : qaM} {v1 : Int32} {v2 : Int32} {v3 : Int32} {v4 : Int32} {v5 : Int32} {v6 : Int32} {v7 : Int32} {v8 : Int32} {z : ((qaM × Int32 × Int32 × Int32 × Int32) ⊕ (Int32 × qaM))} (hf : b_X7_rules_46 m v1 v2 v3 v4 v5 v6 v7 v8 = some z) (hK : (qa_K (fun s => QG X Y 12 s.1 46 [(0, .ref (Y.2.2.1 36)), (1, .int v1), (2, .int v2), (3, .int v3), (4, .int v4), (5, .int s.2.1), (6, .int s.2.2.1), (7, .int s.2.2.2.1), (8, .int s.2.2.2.2)] []) (qa_eq fin)) z) : QG X Y 12 m 46 [(0, .ref (Y.2.2.1 36)), (1, .int v1), (2, .int v2), (3, .int v3), (4, .int v4), (5, .int v5), (6, .int v6), (7, .int v7), (8, .int v8)] [] := by
  unfold b_X7_rules_46 at hf
  refine qi_iload hC 8 rfl dX7_rules_46 ?_
  refine qi_bipush hC dX7_rules_48 kn_bipush_12 ?_
  refine qi_icmp_ge (tgt := 215) hC (by decide) dX7_rules_50 (fun h => ?_) (fun h => ?_)
  · replace hf := qa_if_t h hf
    obtain ⟨z, rfl, hg⟩ := qa_inr_e hf; have hf := hg
    refine qi_sub hC [0, 3, 4, 5] rfl ?_
    exact t_X7_rules_215 hC hQ hf hK
  · replace hf := qa_if_f h hf
    refine qi_aload_n hC 0 rfl rfl dX7_rules_53 ?_
    refine qi_getr hC kf_X7_22 sh_36 rfl dX7_rules_54 ?_
    refine qi_iconst hC dX7_rules_57 kn_iconst_2 ?_
    refine qi_iload hC 8 rfl dX7_rules_58 ?_
    refine qi_iconst hC dX7_rules_60 kn_iconst_3 ?_
    refine qi_idiv hC (by decide) dX7_rules_61 ?_
    obtain ⟨m7, em7, hf⟩ := qa_lt_e hf
    refine qi_iast hC tn_2 em7 sh_41 vi_2_4 dX7_rules_62 ?_
    refine qi_aload_n hC 0 rfl rfl dX7_rules_63 ?_
    refine qi_getr hC kf_X7_22 sh_36 rfl dX7_rules_64 ?_
    refine qi_iconst hC dX7_rules_67 kn_iconst_3 ?_
    refine qi_iload hC 8 rfl dX7_rules_68 ?_
    refine qi_iconst hC dX7_rules_70 kn_iconst_3 ?_
    refine qi_irem hC (by decide) dX7_rules_71 ?_
    obtain ⟨m8, em8, hf⟩ := qa_lt_e hf
    refine qi_iast hC tn_3 em8 sh_41 vi_3_4 dX7_rules_72 ?_
    refine qi_aload_n hC 0 rfl rfl dX7_rules_73 ?_
    refine qi_iload_n hC 1 rfl rfl dX7_rules_74 ?_
    obtain ⟨q9, hq9, hf⟩ := Option.bind_eq_some_iff.mp hf
    refine qi_callVv hC (as := [.int v1]) (c_X7_goes _ _ _ _ _ hq9) kl_X7_269 sh_36 kc_X7_goes rfl rfl (by decide) (by decide) (Nat.le_of_ble_eq_true rfl) dX7_rules_75 ?_
    refine qi_iload_n hC 2 rfl rfl dX7_rules_78 ?_
    refine qi_if_ne (tgt := 89) hC (by decide) dX7_rules_79 (fun h => ?_) (fun h => ?_)
    · replace hf := qa_if_f h hf
      refine qi_aload_n hC 0 rfl rfl dX7_rules_89 ?_
      refine qi_geti hC kf_X7_214 sh_36 rfl dX7_rules_90 ?_
      refine qi_ineg hC dX7_rules_93 ?_
      exact t_X7_rules_94 hC hQ hf hK
    · replace hf := qa_if_t h hf
      refine qi_aload_n hC 0 rfl rfl dX7_rules_82 ?_
      obtain ⟨q11, hq11, hf⟩ := Option.bind_eq_some_iff.mp hf
      refine qi_callVi hC (as := []) (c_X7_leftMany _ _ _ _ hq11) kl_X7_272 sh_36 kc_X7_leftMany rfl rfl (by decide) (by decide) (Nat.le_of_ble_eq_true rfl) dX7_rules_83 ?_
      refine qi_goto (tgt := 94) hC (by decide) dX7_rules_86 ?_
      exact t_X7_rules_94 hC hQ hf hK
set_option maxRecDepth 100000 in
set_option maxHeartbeats 4000000 in
theorem tn_X7_rules_46 {X : qaX} {l : Launch} {Y : qaY} {fin : Int32 × qaM} (hC : QC X l Y cX7_rules RX7 12 8) (hQ : QRi X Y (some .int) fin.2 fin.1) {v1 : Int32} {v2 : Int32} {v3 : Int32} {v4 : Int32} {z : (Int32 × qaM)} (hK : (qa_eq fin) z) : ∀ (n : Nat) (s : qaM × Int32 × Int32 × Int32 × Int32), qa_lp (fun s => b_X7_rules_46 s.1 v1 v2 v3 v4 s.2.1 s.2.2.1 s.2.2.2.1 s.2.2.2.2) n s = some z → QG X Y 12 s.1 46 [(0, .ref (Y.2.2.1 36)), (1, .int v1), (2, .int v2), (3, .int v3), (4, .int v4), (5, .int s.2.1), (6, .int s.2.2.1), (7, .int s.2.2.2.1), (8, .int s.2.2.2.2)] [] := by
  intro n
  induction n with
  | zero => intro s hf; cases hf
  | succ n ih =>
    intro s hf
    obtain ⟨y, hy, hf⟩ := qa_lp_e hf
    refine t_X7_rules_46 hC hQ hy ?_
    rcases hf with ⟨s', rfl, hf⟩ | rfl
    · exact ih s' hf
    · exact hK
set_option maxRecDepth 100000 in
set_option maxHeartbeats 4000000 in
theorem tl_X7_rules_46 {X : qaX} {l : Launch} {Y : qaY} {fin : Int32 × qaM} (hC : QC X l Y cX7_rules RX7 12 8) (hQ : QRi X Y (some .int) fin.2 fin.1) {m : qaM} {v1 : Int32} {v2 : Int32} {v3 : Int32} {v4 : Int32} {v5 : Int32} {v6 : Int32} {v7 : Int32} {v8 : Int32} {z : (Int32 × qaM)} (hf : lp_X7_rules_46 m v1 v2 v3 v4 v5 v6 v7 v8 = some z) (hK : (qa_eq fin) z) : QG X Y 12 m 46 [(0, .ref (Y.2.2.1 36)), (1, .int v1), (2, .int v2), (3, .int v3), (4, .int v4), (5, .int v5), (6, .int v6), (7, .int v7), (8, .int v8)] [] :=
  tn_X7_rules_46 hC hQ hK qa_F (m, v5, v6, v7, v8) hf
set_option maxRecDepth 100000 in
set_option maxHeartbeats 4000000 in
theorem c_X7_rules (l : Launch) (Y : qaY) (m : qaM) (v1 : Int32) (v2 : Int32) (q : Int32 × qaM) (hf : f_X7_rules m v1 v2 = some q) : qaMi l Y yX7_rules cX7_rules 12 (some .int) 8 [.ref (Y.2.2.1 36), .int v1, .int v2] m q.2 q.1 := by
  refine qa_enti (by decide +kernel) (Nat.le_of_ble_eq_true rfl) fun X hC hQ => ?_
  have hK : qa_eq q q := rfl
  unfold f_X7_rules at hf
  refine qi_iload_n hC 1 rfl rfl dX7_rules_0 ?_
  obtain ⟨q1, hq1, hf⟩ := Option.bind_eq_some_iff.mp hf
  refine qi_callSi hC (as := [.int v1]) (c_X7_areWeeks _ _ _ _ _ hq1) kl_X7_266 kc_X7_areWeeks rfl rfl (by decide) (by decide) (Nat.le_of_ble_eq_true rfl) dX7_rules_1 ?_
  refine qi_if_eq (tgt := 16) hC (by decide) dX7_rules_4 (fun h => ?_) (fun h => ?_)
  · replace hf := qa_if_t h hf
    refine qi_bipush hC dX7_rules_16 kn_bipush_m2 ?_
    obtain rfl := Option.some.inj hf
    exact qi_ireti hC hQ hK dX7_rules_18
  · replace hf := qa_if_f h hf
    refine qi_iload_n hC 2 rfl rfl dX7_rules_7 ?_
    refine qi_iconst hC dX7_rules_8 kn_iconst_0 ?_
    refine qi_iconst hC dX7_rules_9 kn_iconst_1 ?_
    obtain ⟨q2, hq2, hf⟩ := Option.bind_eq_some_iff.mp hf
    refine qi_callSi hC (as := [.int v2, .int (0 : Int32), .int (1 : Int32)]) (c_X7_in _ _ _ _ _ _ _ hq2) kl_X7_90 kc_X7_in rfl rfl (by decide) (by decide) (Nat.le_of_ble_eq_true rfl) dX7_rules_10 ?_
    refine qi_if_ne (tgt := 19) hC (by decide) dX7_rules_13 (fun h => ?_) (fun h => ?_)
    · replace hf := qa_if_f h hf
      refine qi_aload_n hC 0 rfl rfl dX7_rules_19 ?_
      refine qi_getr hC kf_X7_22 sh_36 rfl dX7_rules_20 ?_
      refine qi_iconst hC dX7_rules_23 kn_iconst_2 ?_
      refine qi_iald hC tn_2 sh_41 vi_2_4 dX7_rules_24 ?_
      obtain ⟨x3, ex3, hf⟩ := qa_lt_e hf
      refine qi_nmi hC ex3 ?_
      refine qi_istore_n hC rfl (by decide) rfl dX7_rules_25 ?_
      refine qi_aload_n hC 1 rfl rfl dX7_rules_26 ?_
      refine qi_getr hC kf_X7_22 sh_36 rfl dX7_rules_27 ?_
      refine qi_iconst hC dX7_rules_30 kn_iconst_3 ?_
      refine qi_iald hC tn_3 sh_41 vi_3_4 dX7_rules_31 ?_
      obtain ⟨x4, ex4, hf⟩ := qa_lt_e hf
      refine qi_nmi hC ex4 ?_
      refine qi_istore hC (by decide) rfl dX7_rules_32 ?_
      refine qi_iconst hC dX7_rules_34 kn_iconst_m1 ?_
      refine qi_istore hC (by decide) rfl dX7_rules_35 ?_
      refine qi_iconst hC dX7_rules_37 kn_iconst_0 ?_
      refine qi_istore hC (by decide) rfl dX7_rules_38 ?_
      refine qi_iconst hC dX7_rules_40 kn_iconst_0 ?_
      refine qi_istore hC (by decide) rfl dX7_rules_41 ?_
      refine qi_iconst hC dX7_rules_43 kn_iconst_0 ?_
      refine qi_istore hC (by decide) rfl dX7_rules_44 ?_
      refine qi_sub hC [6, 7, 8, 5, 4, 3, 2, 1, 0] rfl ?_
      exact tl_X7_rules_46 hC hQ hf hK
    · replace hf := qa_if_t h hf
      refine qi_bipush hC dX7_rules_16 kn_bipush_m2 ?_
      obtain rfl := Option.some.inj hf
      exact qi_ireti hC hQ hK dX7_rules_18
set_option maxRecDepth 100000 in
set_option maxHeartbeats 4000000 in
theorem t_X7_which_123 {X : qaX} {l : Launch} {Y : qaY} {fin : Int32 × qaM} (hC : QC X l Y cX7_which RX7 6 8) (hQ : QRi X Y (some .int) fin.2 fin.1) {m : qaM} {v1 : Int32} {v2 : Int32} {v3 : Int32} {v4 : Int32} {z : ((qaM × Int32 × Int32 × Int32) ⊕ (Int32 × qaM))} (hf : b_X7_which_123 m v1 v2 v3 v4 = some z) (hK : (qa_K (fun s => QG X Y 6 s.1 25 [(0, .ref (Y.2.2.1 36)), (1, .int v1), (2, .int s.2.1), (3, .int s.2.2.1), (4, .int s.2.2.2)] []) (qa_eq fin)) z) : QG X Y 6 m 123 [(0, .ref (Y.2.2.1 36)), (1, .int v1), (2, .int v2), (3, .int v3), (4, .int v4)] [] := by
  unfold b_X7_which_123 at hf
  obtain ⟨x5, ex5, hf⟩ := qa_lt_e hf
  refine qi_iinc hC (n := 1) (v := x5) 4 rfl ((congrArg (fun q => v4 + q) kn_iconst_1).trans ex5.symm) (by decide) rfl dX7_which_123 ?_
  refine qi_goto (tgt := 25) hC (by decide) dX7_which_126 ?_
  obtain rfl := Option.some.inj hf
  refine qi_sub hC [1, 2, 3, 4, 0] rfl ?_
  exact hK
set_option maxRecDepth 100000 in
set_option maxHeartbeats 4000000 in
theorem t_X7_which_122 {X : qaX} {l : Launch} {Y : qaY} {fin : Int32 × qaM} (hC : QC X l Y cX7_which RX7 6 8) (hQ : QRi X Y (some .int) fin.2 fin.1) {m : qaM} {v1 : Int32} {v2 : Int32} {v4 : Int32} {s0 : Int32} {z : ((qaM × Int32 × Int32 × Int32) ⊕ (Int32 × qaM))} (hf : b_X7_which_122 m v1 v2 v4 s0 = some z) (hK : (qa_K (fun s => QG X Y 6 s.1 25 [(0, .ref (Y.2.2.1 36)), (1, .int v1), (2, .int s.2.1), (3, .int s.2.2.1), (4, .int s.2.2.2)] []) (qa_eq fin)) z) : QG X Y 6 m 122 [(0, .ref (Y.2.2.1 36)), (1, .int v1), (2, .int v2), (4, .int v4)] [.int s0] := by
  unfold b_X7_which_122 at hf
  refine qi_istore_n hC rfl (by decide) rfl dX7_which_122 ?_
  refine qi_sub hC [1, 2, 3, 0, 4] rfl ?_
  exact t_X7_which_123 hC hQ hf hK
set_option maxRecDepth 100000 in
set_option maxHeartbeats 4000000 in
theorem t_X7_which_105 {X : qaX} {l : Launch} {Y : qaY} {fin : Int32 × qaM} (hC : QC X l Y cX7_which RX7 6 8) (hQ : QRi X Y (some .int) fin.2 fin.1) {m : qaM} {v1 : Int32} {v3 : Int32} {v4 : Int32} {s0 : Int32} {z : ((qaM × Int32 × Int32 × Int32) ⊕ (Int32 × qaM))} (hf : b_X7_which_105 m v1 v3 v4 s0 = some z) (hK : (qa_K (fun s => QG X Y 6 s.1 25 [(0, .ref (Y.2.2.1 36)), (1, .int v1), (2, .int s.2.1), (3, .int s.2.2.1), (4, .int s.2.2.2)] []) (qa_eq fin)) z) : QG X Y 6 m 105 [(0, .ref (Y.2.2.1 36)), (1, .int v1), (3, .int v3), (4, .int v4)] [.int s0] := by
  unfold b_X7_which_105 at hf
  refine qi_istore_n hC rfl (by decide) rfl dX7_which_105 ?_
  refine qi_aload_n hC 1 rfl rfl dX7_which_106 ?_
  obtain ⟨q15, hq15, hf⟩ := Option.bind_eq_some_iff.mp hf
  refine qi_callVi hC (as := []) (c_X7_leftMany _ _ _ _ hq15) kl_X7_272 sh_36 kc_X7_leftMany rfl rfl (by decide) (by decide) (Nat.le_of_ble_eq_true rfl) dX7_which_107 ?_
  refine qi_iload_n hC 3 rfl rfl dX7_which_110 ?_
  refine qi_icmp_le (tgt := 121) hC (by decide) dX7_which_111 (fun h => ?_) (fun h => ?_)
  · replace hf := qa_if_t h hf
    refine qi_iload_n hC 3 rfl rfl dX7_which_121 ?_
    refine qi_sub hC [1, 2, 0, 4] rfl ?_
    exact t_X7_which_122 hC hQ hf hK
  · replace hf := qa_if_f h hf
    refine qi_aload_n hC 1 rfl rfl dX7_which_114 ?_
    obtain ⟨q16, hq16, hf⟩ := Option.bind_eq_some_iff.mp hf
    refine qi_callVi hC (as := []) (c_X7_leftMany _ _ _ _ hq16) kl_X7_272 sh_36 kc_X7_leftMany rfl rfl (by decide) (by decide) (Nat.le_of_ble_eq_true rfl) dX7_which_115 ?_
    refine qi_goto (tgt := 122) hC (by decide) dX7_which_118 ?_
    refine qi_sub hC [1, 2, 0, 4] rfl ?_
    exact t_X7_which_122 hC hQ hf hK
set_option maxRecDepth 100000 in
set_option maxHeartbeats 4000000 in
theorem t_X7_which_25 {X : qaX} {l : Launch} {Y : qaY} {fin : Int32 × qaM} (hC : QC X l Y cX7_which RX7 6 8) (hQ : QRi X Y (some .int) fin.2 fin.1) {m : qaM} {v1 : Int32} {v2 : Int32} {v3 : Int32} {v4 : Int32} {z : ((qaM × Int32 × Int32 × Int32) ⊕ (Int32 × qaM))} (hf : b_X7_which_25 m v1 v2 v3 v4 = some z) (hK : (qa_K (fun s => QG X Y 6 s.1 25 [(0, .ref (Y.2.2.1 36)), (1, .int v1), (2, .int s.2.1), (3, .int s.2.2.1), (4, .int s.2.2.2)] []) (qa_eq fin)) z) : QG X Y 6 m 25 [(0, .ref (Y.2.2.1 36)), (1, .int v1), (2, .int v2), (3, .int v3), (4, .int v4)] [] := by
  unfold b_X7_which_25 at hf
  refine qi_iload hC 4 rfl dX7_which_25 ?_
  refine qi_aload_n hC 0 rfl rfl dX7_which_27 ?_
  refine qi_geti hC kf_X7_87 sh_36 rfl dX7_which_28 ?_
  refine qi_icmp_ge (tgt := 129) hC (by decide) dX7_which_31 (fun h => ?_) (fun h => ?_)
  · replace hf := qa_if_t h hf
    refine qi_iload_n hC 2 rfl rfl dX7_which_129 ?_
    obtain ⟨z, rfl, hg⟩ := qa_inr_e hf; have hf := hg
    obtain rfl := Option.some.inj hf
    exact qi_ireti hC hQ hK dX7_which_130
  · replace hf := qa_if_f h hf
    refine qi_aload_n hC 0 rfl rfl dX7_which_34 ?_
    refine qi_iload hC 4 rfl dX7_which_35 ?_
    obtain ⟨q4, hq4, hf⟩ := Option.bind_eq_some_iff.mp hf
    refine qi_callVi hC (as := [.int v4]) (c_X7_mayTurn _ _ _ _ _ hq4) kl_X7_196 sh_36 kc_X7_mayTurn rfl rfl (by decide) (by decide) (Nat.le_of_ble_eq_true rfl) dX7_which_37 ?_
    refine qi_if_eq (tgt := 123) hC (by decide) dX7_which_40 (fun h => ?_) (fun h => ?_)
    · replace hf := qa_if_t h hf
      exact t_X7_which_123 hC hQ hf hK
    · replace hf := qa_if_f h hf
      refine qi_aload_n hC 0 rfl rfl dX7_which_43 ?_
      refine qi_getr hC kf_X7_16 sh_36 rfl dX7_which_44 ?_
      refine qi_bipush hC dX7_which_47 kn_bipush_6 ?_
      refine qi_iload hC 4 rfl dX7_which_49 ?_
      refine qi_imul hC dX7_which_51 ?_
      obtain ⟨h6, hf⟩ := qa_ck_e hf
      refine qi_iald hC rfl sh_39 (qa_in_v h6) dX7_which_52 ?_
      obtain ⟨x7, ex7, hf⟩ := qa_lt_e hf
      refine qi_nmi hC ex7 ?_
      refine qi_istore hC (by decide) rfl dX7_which_53 ?_
      refine qi_aload_n hC 1 rfl rfl dX7_which_55 ?_
      refine qi_iload hC 5 rfl dX7_which_56 ?_
      obtain ⟨q8, hq8, hf⟩ := Option.bind_eq_some_iff.mp hf
      refine qi_callVv hC (as := [.int v4]) (c_X7_turns _ _ _ _ _ hq8) kl_X7_199 sh_36 kc_X7_turns rfl rfl (by decide) (by decide) (Nat.le_of_ble_eq_true rfl) dX7_which_58 ?_
      refine qi_aload_n hC 1 rfl rfl dX7_which_61 ?_
      refine qi_iload_n hC 2 rfl rfl dX7_which_62 ?_
      obtain ⟨q9, hq9, hf⟩ := Option.bind_eq_some_iff.mp hf
      refine qi_callVv hC (as := [.int v1]) (c_X7_goes _ _ _ _ _ hq9) kl_X7_269 sh_36 kc_X7_goes rfl rfl (by decide) (by decide) (Nat.le_of_ble_eq_true rfl) dX7_which_63 ?_
      refine qi_aload_n hC 1 rfl rfl dX7_which_66 ?_
      refine qi_getr hC kf_X7_16 sh_36 rfl dX7_which_67 ?_
      refine qi_bipush hC dX7_which_70 kn_bipush_6 ?_
      refine qi_iload hC 5 rfl dX7_which_72 ?_
      refine qi_imul hC dX7_which_74 ?_
      refine qi_iload hC 0 rfl dX7_which_75 ?_
      obtain ⟨h10, hf⟩ := qa_ck_e hf
      obtain ⟨m11, em11, hf⟩ := qa_lt_e hf
      refine qi_iast hC rfl em11 sh_39 (qa_in_v h10) dX7_which_77 ?_
      refine qi_aload_n hC 1 rfl rfl dX7_which_78 ?_
      refine qi_getr hC kf_X7_16 sh_36 rfl dX7_which_79 ?_
      refine qi_bipush hC dX7_which_82 kn_bipush_6 ?_
      refine qi_iload hC 5 rfl dX7_which_84 ?_
      refine qi_imul hC dX7_which_86 ?_
      refine qi_iconst hC dX7_which_87 kn_iconst_3 ?_
      refine qi_iadd hC dX7_which_88 ?_
      refine qi_iconst hC dX7_which_89 kn_iconst_0 ?_
      obtain ⟨h12, hf⟩ := qa_ck_e hf
      obtain ⟨m13, em13, hf⟩ := qa_lt_e hf
      refine qi_iast hC rfl em13 sh_39 (qa_in_v h12) dX7_which_90 ?_
      refine qi_aload_n hC 1 rfl rfl dX7_which_91 ?_
      obtain ⟨q14, hq14, hf⟩ := Option.bind_eq_some_iff.mp hf
      refine qi_callVi hC (as := []) (c_X7_leftMany _ _ _ _ hq14) kl_X7_272 sh_36 kc_X7_leftMany rfl rfl (by decide) (by decide) (Nat.le_of_ble_eq_true rfl) dX7_which_92 ?_
      refine qi_iload_n hC 4 rfl rfl dX7_which_95 ?_
      refine qi_icmp_le (tgt := 104) hC (by decide) dX7_which_96 (fun h => ?_) (fun h => ?_)
      · replace hf := qa_if_t h hf
        refine qi_iload_n hC 3 rfl rfl dX7_which_104 ?_
        refine qi_sub hC [1, 2, 4, 5] rfl ?_
        exact t_X7_which_105 hC hQ hf hK
      · replace hf := qa_if_f h hf
        refine qi_iload hC 5 rfl dX7_which_99 ?_
        refine qi_goto (tgt := 105) hC (by decide) dX7_which_101 ?_
        refine qi_sub hC [1, 2, 4, 5] rfl ?_
        exact t_X7_which_105 hC hQ hf hK
set_option maxRecDepth 100000 in
set_option maxHeartbeats 4000000 in
theorem tn_X7_which_25 {X : qaX} {l : Launch} {Y : qaY} {fin : Int32 × qaM} (hC : QC X l Y cX7_which RX7 6 8) (hQ : QRi X Y (some .int) fin.2 fin.1) {v1 : Int32} {z : (Int32 × qaM)} (hK : (qa_eq fin) z) : ∀ (n : Nat) (s : qaM × Int32 × Int32 × Int32), qa_lp (fun s => b_X7_which_25 s.1 v1 s.2.1 s.2.2.1 s.2.2.2) n s = some z → QG X Y 6 s.1 25 [(0, .ref (Y.2.2.1 36)), (1, .int v1), (2, .int s.2.1), (3, .int s.2.2.1), (4, .int s.2.2.2)] [] := by
  intro n
  induction n with
  | zero => intro s hf; cases hf
  | succ n ih =>
    intro s hf
    obtain ⟨y, hy, hf⟩ := qa_lp_e hf
    refine t_X7_which_25 hC hQ hy ?_
    rcases hf with ⟨s', rfl, hf⟩ | rfl
    · exact ih s' hf
    · exact hK
set_option maxRecDepth 100000 in
set_option maxHeartbeats 4000000 in
theorem tl_X7_which_25 {X : qaX} {l : Launch} {Y : qaY} {fin : Int32 × qaM} (hC : QC X l Y cX7_which RX7 6 8) (hQ : QRi X Y (some .int) fin.2 fin.1) {m : qaM} {v1 : Int32} {v2 : Int32} {v3 : Int32} {v4 : Int32} {z : (Int32 × qaM)} (hf : lp_X7_which_25 m v1 v2 v3 v4 = some z) (hK : (qa_eq fin) z) : QG X Y 6 m 25 [(0, .ref (Y.2.2.1 36)), (1, .int v1), (2, .int v2), (3, .int v3), (4, .int v4)] [] :=
  tn_X7_which_25 hC hQ hK qa_F (m, v2, v3, v4) hf
set_option maxRecDepth 100000 in
set_option maxHeartbeats 4000000 in
theorem c_X7_which (l : Launch) (Y : qaY) (m : qaM) (v1 : Int32) (q : Int32 × qaM) (hf : f_X7_which m v1 = some q) : qaMi l Y yX7_which cX7_which 6 (some .int) 8 [.ref (Y.2.2.1 36), .int v1] m q.2 q.1 := by
  refine qa_enti (by decide +kernel) (Nat.le_of_ble_eq_true rfl) fun X hC hQ => ?_
  have hK : qa_eq q q := rfl
  unfold f_X7_which at hf
  refine qi_iload_n hC 1 rfl rfl dX7_which_0 ?_
  obtain ⟨q1, hq1, hf⟩ := Option.bind_eq_some_iff.mp hf
  refine qi_callSi hC (as := [.int v1]) (c_X7_areWeeks _ _ _ _ _ hq1) kl_X7_266 kc_X7_areWeeks rfl rfl (by decide) (by decide) (Nat.le_of_ble_eq_true rfl) dX7_which_1 ?_
  refine qi_if_ne (tgt := 10) hC (by decide) dX7_which_4 (fun h => ?_) (fun h => ?_)
  · replace hf := qa_if_f h hf
    refine qi_aload_n hC 0 rfl rfl dX7_which_10 ?_
    refine qi_iload_n hC 1 rfl rfl dX7_which_11 ?_
    obtain ⟨q2, hq2, hf⟩ := Option.bind_eq_some_iff.mp hf
    refine qi_callVv hC (as := [.int v1]) (c_X7_goes _ _ _ _ _ hq2) kl_X7_269 sh_36 kc_X7_goes rfl rfl (by decide) (by decide) (Nat.le_of_ble_eq_true rfl) dX7_which_12 ?_
    refine qi_iconst hC dX7_which_15 kn_iconst_m1 ?_
    refine qi_istore_n hC rfl (by decide) rfl dX7_which_16 ?_
    refine qi_aload_n hC 1 rfl rfl dX7_which_17 ?_
    obtain ⟨q3, hq3, hf⟩ := Option.bind_eq_some_iff.mp hf
    refine qi_callVi hC (as := []) (c_X7_leftMany _ _ _ _ hq3) kl_X7_272 sh_36 kc_X7_leftMany rfl rfl (by decide) (by decide) (Nat.le_of_ble_eq_true rfl) dX7_which_18 ?_
    refine qi_istore_n hC rfl (by decide) rfl dX7_which_21 ?_
    refine qi_iconst hC dX7_which_22 kn_iconst_0 ?_
    refine qi_istore hC (by decide) rfl dX7_which_23 ?_
    refine qi_sub hC [3, 4, 2, 1, 0] rfl ?_
    exact tl_X7_which_25 hC hQ hf hK
  · replace hf := qa_if_t h hf
    refine qi_bipush hC dX7_which_7 kn_bipush_m2 ?_
    obtain rfl := Option.some.inj hf
    exact qi_ireti hC hQ hK dX7_which_9
set_option maxRecDepth 100000 in
set_option maxHeartbeats 4000000 in
theorem t_X7_goneOf_66 {X : qaX} {l : Launch} {Y : qaY} {fin : Int32 × qaM} (hC : QC X l Y cX7_goneOf RX7 5 7) (hQ : QRi X Y (some .int) fin.2 fin.1) {m : qaM} {v1 : Int32} {v2 : Int32} {z : (Int32 × qaM)} (hf : b_X7_goneOf_66 m v1 v2 = some z) (hK : (qa_eq fin) z) : QG X Y 5 m 66 [(0, .ref (Y.2.2.1 36)), (1, .int v1), (2, .int v2)] [] := by
  unfold b_X7_goneOf_66 at hf
  refine qi_aload_n hC 0 rfl rfl dX7_goneOf_66 ?_
  obtain ⟨q3, hq3, hf⟩ := Option.bind_eq_some_iff.mp hf
  refine qi_callVv hC (as := []) (c_X7_laysBack _ _ _ _ hq3) kl_X7_263 sh_36 kc_X7_laysBack rfl rfl (by decide) (by decide) (Nat.le_of_ble_eq_true rfl) dX7_goneOf_67 ?_
  refine qi_aload_n hC 0 rfl rfl dX7_goneOf_70 ?_
  refine qi_getr hC kf_X7_67 sh_36 rfl dX7_goneOf_71 ?_
  refine qi_iload_n hC 1 rfl rfl dX7_goneOf_74 ?_
  obtain ⟨h4, hf⟩ := qa_ck_e hf
  refine qi_iald hC rfl sh_56 (qa_in_v h4) dX7_goneOf_75 ?_
  refine qi_iconst hC dX7_goneOf_76 kn_iconst_m1 ?_
  refine qi_icmp_ne (tgt := 84) hC (by decide) dX7_goneOf_77 (fun h => ?_) (fun h => ?_)
  · replace hf := qa_if_f h hf
    refine qi_aload_n hC 0 rfl rfl dX7_goneOf_84 ?_
    refine qi_getr hC kf_X7_67 sh_36 rfl dX7_goneOf_85 ?_
    refine qi_iload_n hC 1 rfl rfl dX7_goneOf_88 ?_
    obtain ⟨h5, hf⟩ := qa_ck_e hf
    refine qi_iald hC rfl sh_56 (qa_in_v h5) dX7_goneOf_89 ?_
    obtain rfl := Option.some.inj hf
    exact qi_ireti hC hQ hK dX7_goneOf_90
  · replace hf := qa_if_t h hf
    refine qi_iload_n hC 2 rfl rfl dX7_goneOf_80 ?_
    refine qi_goto (tgt := 90) hC (by decide) dX7_goneOf_81 ?_
    obtain rfl := Option.some.inj hf
    exact qi_ireti hC hQ hK dX7_goneOf_90
set_option maxRecDepth 100000 in
set_option maxHeartbeats 4000000 in
theorem t_X7_goneOf_42 {X : qaX} {l : Launch} {Y : qaY} {fin : Int32 × qaM} (hC : QC X l Y cX7_goneOf RX7 5 7) (hQ : QRi X Y (some .int) fin.2 fin.1) {m : qaM} {v1 : Int32} {v2 : Int32} {v3 : Int32} {v4 : Int32} {z : ((qaM × Int32) ⊕ (Int32 × qaM))} (hf : b_X7_goneOf_42 m v1 v2 v3 v4 = some z) (hK : (qa_K (fun s => QG X Y 5 s.1 12 [(0, .ref (Y.2.2.1 36)), (1, .int v1), (2, .int v2), (3, .int v3), (4, .int s.2)] []) (qa_eq fin)) z) : QG X Y 5 m 42 [(0, .ref (Y.2.2.1 36)), (1, .int v1), (2, .int v2), (3, .int v3), (4, .int v4)] [] := by
  unfold b_X7_goneOf_42 at hf
  refine qi_aload_n hC 0 rfl rfl dX7_goneOf_42 ?_
  refine qi_iload hC 4 rfl dX7_goneOf_43 ?_
  refine qi_aload_n hC 0 rfl rfl dX7_goneOf_45 ?_
  refine qi_getr hC kf_X7_22 sh_36 rfl dX7_goneOf_46 ?_
  refine qi_iconst hC dX7_goneOf_49 kn_iconst_0 ?_
  refine qi_iald hC tn_0 sh_41 vi_0_4 dX7_goneOf_50 ?_
  refine qi_aload_n hC 0 rfl rfl dX7_goneOf_51 ?_
  refine qi_getr hC kf_X7_22 sh_36 rfl dX7_goneOf_52 ?_
  refine qi_iconst hC dX7_goneOf_55 kn_iconst_2 ?_
  refine qi_iald hC tn_2 sh_41 vi_2_4 dX7_goneOf_56 ?_
  obtain ⟨q6, hq6, hf⟩ := Option.bind_eq_some_iff.mp hf
  refine qi_callVv hC (as := [.int v4, .int (m 41 0), .int (m 41 2)]) (c_X7_weekBy _ _ _ _ _ _ _ hq6) kl_X7_250 sh_36 kc_X7_weekBy rfl rfl (by decide) (by decide) (Nat.le_of_ble_eq_true rfl) dX7_goneOf_57 ?_
  obtain ⟨x7, ex7, hf⟩ := qa_lt_e hf
  refine qi_iinc hC (n := 1) (v := x7) 4 rfl ((congrArg (fun q => v4 + q) kn_iconst_1).trans ex7.symm) (by decide) rfl dX7_goneOf_60 ?_
  refine qi_goto (tgt := 12) hC (by decide) dX7_goneOf_63 ?_
  obtain rfl := Option.some.inj hf
  refine qi_sub hC [1, 2, 3, 4, 0] rfl ?_
  exact hK
set_option maxRecDepth 100000 in
set_option maxHeartbeats 4000000 in
theorem t_X7_goneOf_12 {X : qaX} {l : Launch} {Y : qaY} {fin : Int32 × qaM} (hC : QC X l Y cX7_goneOf RX7 5 7) (hQ : QRi X Y (some .int) fin.2 fin.1) {m : qaM} {v1 : Int32} {v2 : Int32} {v3 : Int32} {v4 : Int32} {z : ((qaM × Int32) ⊕ (Int32 × qaM))} (hf : b_X7_goneOf_12 m v1 v2 v3 v4 = some z) (hK : (qa_K (fun s => QG X Y 5 s.1 12 [(0, .ref (Y.2.2.1 36)), (1, .int v1), (2, .int v2), (3, .int v3), (4, .int s.2)] []) (qa_eq fin)) z) : QG X Y 5 m 12 [(0, .ref (Y.2.2.1 36)), (1, .int v1), (2, .int v2), (3, .int v3), (4, .int v4)] [] := by
  unfold b_X7_goneOf_12 at hf
  refine qi_iload hC 4 rfl dX7_goneOf_12 ?_
  refine qi_iload_n hC 2 rfl rfl dX7_goneOf_14 ?_
  refine qi_icmp_ge (tgt := 66) hC (by decide) dX7_goneOf_15 (fun h => ?_) (fun h => ?_)
  · replace hf := qa_if_t h hf
    obtain ⟨z, rfl, hg⟩ := qa_inr_e hf; have hf := hg
    refine qi_sub hC [0, 1, 2] rfl ?_
    exact t_X7_goneOf_66 hC hQ hf hK
  · replace hf := qa_if_f h hf
    refine qi_iload hC 4 rfl dX7_goneOf_18 ?_
    refine qi_iload_n hC 3 rfl rfl dX7_goneOf_20 ?_
    refine qi_icmp_ne (tgt := 42) hC (by decide) dX7_goneOf_21 (fun h => ?_) (fun h => ?_)
    · replace hf := qa_if_f h hf
      exact t_X7_goneOf_42 hC hQ hf hK
    · replace hf := qa_if_t h hf
      refine qi_aload_n hC 0 rfl rfl dX7_goneOf_24 ?_
      refine qi_iload_n hC 1 rfl rfl dX7_goneOf_25 ?_
      obtain ⟨q8, hq8, hf⟩ := Option.bind_eq_some_iff.mp hf
      refine qi_callVi hC (as := [.int v1]) (c_X7_mayTurn _ _ _ _ _ hq8) kl_X7_196 sh_36 kc_X7_mayTurn rfl rfl (by decide) (by decide) (Nat.le_of_ble_eq_true rfl) dX7_goneOf_26 ?_
      refine qi_if_eq (tgt := 42) hC (by decide) dX7_goneOf_29 (fun h => ?_) (fun h => ?_)
      · replace hf := qa_if_t h hf
        exact t_X7_goneOf_42 hC hQ hf hK
      · replace hf := qa_if_f h hf
        refine qi_aload_n hC 0 rfl rfl dX7_goneOf_32 ?_
        refine qi_iload_n hC 1 rfl rfl dX7_goneOf_33 ?_
        obtain ⟨q9, hq9, hf⟩ := Option.bind_eq_some_iff.mp hf
        refine qi_callVv hC (as := [.int v1]) (c_X7_turns _ _ _ _ _ hq9) kl_X7_199 sh_36 kc_X7_turns rfl rfl (by decide) (by decide) (Nat.le_of_ble_eq_true rfl) dX7_goneOf_34 ?_
        refine qi_aload_n hC 0 rfl rfl dX7_goneOf_37 ?_
        refine qi_iconst hC dX7_goneOf_38 kn_iconst_1 ?_
        obtain ⟨m10, em10, hf⟩ := qa_lt_e hf
        refine qi_puti hC em10 kp_X7_278 sh_36 rfl rfl rfl dX7_goneOf_39 ?_
        exact t_X7_goneOf_42 hC hQ hf hK
set_option maxRecDepth 100000 in
set_option maxHeartbeats 4000000 in
theorem tn_X7_goneOf_12 {X : qaX} {l : Launch} {Y : qaY} {fin : Int32 × qaM} (hC : QC X l Y cX7_goneOf RX7 5 7) (hQ : QRi X Y (some .int) fin.2 fin.1) {v1 : Int32} {v2 : Int32} {v3 : Int32} {z : (Int32 × qaM)} (hK : (qa_eq fin) z) : ∀ (n : Nat) (s : qaM × Int32), qa_lp (fun s => b_X7_goneOf_12 s.1 v1 v2 v3 s.2) n s = some z → QG X Y 5 s.1 12 [(0, .ref (Y.2.2.1 36)), (1, .int v1), (2, .int v2), (3, .int v3), (4, .int s.2)] [] := by
  intro n
  induction n with
  | zero => intro s hf; cases hf
  | succ n ih =>
    intro s hf
    obtain ⟨y, hy, hf⟩ := qa_lp_e hf
    refine t_X7_goneOf_12 hC hQ hy ?_
    rcases hf with ⟨s', rfl, hf⟩ | rfl
    · exact ih s' hf
    · exact hK
set_option maxRecDepth 100000 in
set_option maxHeartbeats 4000000 in
theorem tl_X7_goneOf_12 {X : qaX} {l : Launch} {Y : qaY} {fin : Int32 × qaM} (hC : QC X l Y cX7_goneOf RX7 5 7) (hQ : QRi X Y (some .int) fin.2 fin.1) {m : qaM} {v1 : Int32} {v2 : Int32} {v3 : Int32} {v4 : Int32} {z : (Int32 × qaM)} (hf : lp_X7_goneOf_12 m v1 v2 v3 v4 = some z) (hK : (qa_eq fin) z) : QG X Y 5 m 12 [(0, .ref (Y.2.2.1 36)), (1, .int v1), (2, .int v2), (3, .int v3), (4, .int v4)] [] :=
  tn_X7_goneOf_12 hC hQ hK qa_F (m, v4) hf
set_option maxRecDepth 100000 in
set_option maxHeartbeats 4000000 in
theorem c_X7_goneOf (l : Launch) (Y : qaY) (m : qaM) (v1 : Int32) (v2 : Int32) (v3 : Int32) (q : Int32 × qaM) (hf : f_X7_goneOf m v1 v2 v3 = some q) : qaMi l Y yX7_goneOf cX7_goneOf 5 (some .int) 7 [.ref (Y.2.2.1 36), .int v1, .int v2, .int v3] m q.2 q.1 := by
  refine qa_enti (by decide +kernel) (Nat.le_of_ble_eq_true rfl) fun X hC hQ => ?_
  have hK : qa_eq q q := rfl
  unfold f_X7_goneOf at hf
  refine qi_aload_n hC 0 rfl rfl dX7_goneOf_0 ?_
  refine qi_iconst hC dX7_goneOf_1 kn_iconst_0 ?_
  obtain ⟨m1, em1, hf⟩ := qa_lt_e hf
  refine qi_puti hC em1 kp_X7_278 sh_36 rfl rfl rfl dX7_goneOf_2 ?_
  refine qi_aload_n hC 0 rfl rfl dX7_goneOf_5 ?_
  obtain ⟨q2, hq2, hf⟩ := Option.bind_eq_some_iff.mp hf
  refine qi_callVv hC (as := []) (c_X7_keeps _ _ _ _ hq2) kl_X7_260 sh_36 kc_X7_keeps rfl rfl (by decide) (by decide) (Nat.le_of_ble_eq_true rfl) dX7_goneOf_6 ?_
  refine qi_iconst hC dX7_goneOf_9 kn_iconst_0 ?_
  refine qi_istore hC (by decide) rfl dX7_goneOf_10 ?_
  refine qi_sub hC [1, 2, 3, 4, 0] rfl ?_
  exact tl_X7_goneOf_12 hC hQ hf hK
set_option maxRecDepth 100000 in
set_option maxHeartbeats 4000000 in
theorem t_X7_when_125 {X : qaX} {l : Launch} {Y : qaY} {fin : Int32 × qaM} (hC : QC X l Y cX7_when RX7 9 8) (hQ : QRi X Y (some .int) fin.2 fin.1) {m : qaM} {v3 : Int32} {v4 : Int32} {v5 : Int32} {z : (Int32 × qaM)} (hf : b_X7_when_125 m v3 v4 v5 = some z) (hK : (qa_eq fin) z) : QG X Y 9 m 125 [(3, .int v3), (4, .int v4), (5, .int v5)] [] := by
  unfold b_X7_when_125 at hf
  refine qi_iload_n hC 0 rfl rfl dX7_when_125 ?_
  refine qi_if_ne (tgt := 134) hC (by decide) dX7_when_126 (fun h => ?_) (fun h => ?_)
  · replace hf := qa_if_f h hf
    refine qi_iload hC 2 rfl dX7_when_134 ?_
    obtain rfl := Option.some.inj hf
    exact qi_ireti hC hQ hK dX7_when_136
  · replace hf := qa_if_t h hf
    refine qi_iload hC 1 rfl dX7_when_129 ?_
    refine qi_goto (tgt := 136) hC (by decide) dX7_when_131 ?_
    obtain rfl := Option.some.inj hf
    exact qi_ireti hC hQ hK dX7_when_136
set_option maxRecDepth 100000 in
set_option maxHeartbeats 4000000 in
theorem t_X7_when_117 {X : qaX} {l : Launch} {Y : qaY} {fin : Int32 × qaM} (hC : QC X l Y cX7_when RX7 9 8) (hQ : QRi X Y (some .int) fin.2 fin.1) {m : qaM} {v1 : Int32} {v2 : Int32} {v3 : Int32} {v4 : Int32} {v6 : Int32} {s0 : Int32} {z : ((qaM × Int32 × Int32 × Int32) ⊕ (Int32 × qaM))} (hf : b_X7_when_117 m v1 v2 v3 v4 v6 s0 = some z) (hK : (qa_K (fun s => QG X Y 9 s.1 48 [(0, .ref (Y.2.2.1 36)), (1, .int v1), (2, .int v2), (3, .int v3), (4, .int s.2.1), (5, .int s.2.2.1), (6, .int s.2.2.2)] []) (qa_eq fin)) z) : QG X Y 9 m 117 [(0, .ref (Y.2.2.1 36)), (1, .int v1), (2, .int v2), (3, .int v3), (4, .int v4), (6, .int v6)] [.int s0] := by
  unfold b_X7_when_117 at hf
  refine qi_istore hC (by decide) rfl dX7_when_117 ?_
  obtain ⟨x6, ex6, hf⟩ := qa_lt_e hf
  refine qi_iinc hC (n := 1) (v := x6) 6 rfl ((congrArg (fun q => v6 + q) kn_iconst_1).trans ex6.symm) (by decide) rfl dX7_when_119 ?_
  refine qi_goto (tgt := 48) hC (by decide) dX7_when_122 ?_
  obtain rfl := Option.some.inj hf
  refine qi_sub hC [2, 3, 4, 5, 6, 1, 0] rfl ?_
  exact hK
set_option maxRecDepth 100000 in
set_option maxHeartbeats 4000000 in
theorem t_X7_when_103 {X : qaX} {l : Launch} {Y : qaY} {fin : Int32 × qaM} (hC : QC X l Y cX7_when RX7 9 8) (hQ : QRi X Y (some .int) fin.2 fin.1) {m : qaM} {v1 : Int32} {v2 : Int32} {v3 : Int32} {v5 : Int32} {v6 : Int32} {v7 : Int32} {v8 : Int32} {s0 : Int32} {z : ((qaM × Int32 × Int32 × Int32) ⊕ (Int32 × qaM))} (hf : b_X7_when_103 m v1 v2 v3 v5 v6 v7 v8 s0 = some z) (hK : (qa_K (fun s => QG X Y 9 s.1 48 [(0, .ref (Y.2.2.1 36)), (1, .int v1), (2, .int v2), (3, .int v3), (4, .int s.2.1), (5, .int s.2.2.1), (6, .int s.2.2.2)] []) (qa_eq fin)) z) : QG X Y 9 m 103 [(0, .ref (Y.2.2.1 36)), (1, .int v1), (2, .int v2), (3, .int v3), (5, .int v5), (6, .int v6), (7, .int v7), (8, .int v8)] [.int s0] := by
  unfold b_X7_when_103 at hf
  refine qi_istore hC (by decide) rfl dX7_when_103 ?_
  refine qi_iload hC 8 rfl dX7_when_105 ?_
  refine qi_if_eq (tgt := 115) hC (by decide) dX7_when_107 (fun h => ?_) (fun h => ?_)
  · replace hf := qa_if_t h hf
    refine qi_iload hC 5 rfl dX7_when_115 ?_
    refine qi_sub hC [1, 2, 3, 4, 0, 6] rfl ?_
    exact t_X7_when_117 hC hQ hf hK
  · replace hf := qa_if_f h hf
    refine qi_iload hC 7 rfl dX7_when_110 ?_
    refine qi_goto (tgt := 117) hC (by decide) dX7_when_112 ?_
    refine qi_sub hC [1, 2, 3, 4, 0, 6] rfl ?_
    exact t_X7_when_117 hC hQ hf hK
set_option maxRecDepth 100000 in
set_option maxHeartbeats 4000000 in
theorem t_X7_when_89 {X : qaX} {l : Launch} {Y : qaY} {fin : Int32 × qaM} (hC : QC X l Y cX7_when RX7 9 8) (hQ : QRi X Y (some .int) fin.2 fin.1) {m : qaM} {v1 : Int32} {v2 : Int32} {v3 : Int32} {v4 : Int32} {v5 : Int32} {v6 : Int32} {v7 : Int32} {s0 : Int32} {z : ((qaM × Int32 × Int32 × Int32) ⊕ (Int32 × qaM))} (hf : b_X7_when_89 m v1 v2 v3 v4 v5 v6 v7 s0 = some z) (hK : (qa_K (fun s => QG X Y 9 s.1 48 [(0, .ref (Y.2.2.1 36)), (1, .int v1), (2, .int v2), (3, .int v3), (4, .int s.2.1), (5, .int s.2.2.1), (6, .int s.2.2.2)] []) (qa_eq fin)) z) : QG X Y 9 m 89 [(0, .ref (Y.2.2.1 36)), (1, .int v1), (2, .int v2), (3, .int v3), (4, .int v4), (5, .int v5), (6, .int v6), (7, .int v7)] [.int s0] := by
  unfold b_X7_when_89 at hf
  refine qi_istore hC (by decide) rfl dX7_when_89 ?_
  refine qi_iload hC 0 rfl dX7_when_91 ?_
  refine qi_if_eq (tgt := 101) hC (by decide) dX7_when_93 (fun h => ?_) (fun h => ?_)
  · replace hf := qa_if_t h hf
    refine qi_iload hC 5 rfl dX7_when_101 ?_
    refine qi_sub hC [1, 2, 3, 4, 6, 7, 8, 0] rfl ?_
    exact t_X7_when_103 hC hQ hf hK
  · replace hf := qa_if_f h hf
    refine qi_iload hC 7 rfl dX7_when_96 ?_
    refine qi_goto (tgt := 103) hC (by decide) dX7_when_98 ?_
    refine qi_sub hC [1, 2, 3, 4, 6, 7, 8, 0] rfl ?_
    exact t_X7_when_103 hC hQ hf hK
set_option maxRecDepth 100000 in
set_option maxHeartbeats 4000000 in
theorem t_X7_when_88 {X : qaX} {l : Launch} {Y : qaY} {fin : Int32 × qaM} (hC : QC X l Y cX7_when RX7 9 8) (hQ : QRi X Y (some .int) fin.2 fin.1) {m : qaM} {v1 : Int32} {v2 : Int32} {v3 : Int32} {v4 : Int32} {v5 : Int32} {v6 : Int32} {v7 : Int32} {z : ((qaM × Int32 × Int32 × Int32) ⊕ (Int32 × qaM))} (hf : b_X7_when_88 m v1 v2 v3 v4 v5 v6 v7 = some z) (hK : (qa_K (fun s => QG X Y 9 s.1 48 [(0, .ref (Y.2.2.1 36)), (1, .int v1), (2, .int v2), (3, .int v3), (4, .int s.2.1), (5, .int s.2.2.1), (6, .int s.2.2.2)] []) (qa_eq fin)) z) : QG X Y 9 m 88 [(0, .ref (Y.2.2.1 36)), (1, .int v1), (2, .int v2), (3, .int v3), (4, .int v4), (5, .int v5), (6, .int v6), (7, .int v7)] [] := by
  unfold b_X7_when_88 at hf
  refine qi_iconst hC dX7_when_88 kn_iconst_0 ?_
  exact t_X7_when_89 hC hQ hf hK
set_option maxRecDepth 100000 in
set_option maxHeartbeats 4000000 in
theorem t_X7_when_84 {X : qaX} {l : Launch} {Y : qaY} {fin : Int32 × qaM} (hC : QC X l Y cX7_when RX7 9 8) (hQ : QRi X Y (some .int) fin.2 fin.1) {m : qaM} {v1 : Int32} {v2 : Int32} {v3 : Int32} {v4 : Int32} {v5 : Int32} {v6 : Int32} {v7 : Int32} {z : ((qaM × Int32 × Int32 × Int32) ⊕ (Int32 × qaM))} (hf : b_X7_when_84 m v1 v2 v3 v4 v5 v6 v7 = some z) (hK : (qa_K (fun s => QG X Y 9 s.1 48 [(0, .ref (Y.2.2.1 36)), (1, .int v1), (2, .int v2), (3, .int v3), (4, .int s.2.1), (5, .int s.2.2.1), (6, .int s.2.2.2)] []) (qa_eq fin)) z) : QG X Y 9 m 84 [(0, .ref (Y.2.2.1 36)), (1, .int v1), (2, .int v2), (3, .int v3), (4, .int v4), (5, .int v5), (6, .int v6), (7, .int v7)] [] := by
  unfold b_X7_when_84 at hf
  refine qi_iconst hC dX7_when_84 kn_iconst_1 ?_
  refine qi_goto (tgt := 89) hC (by decide) dX7_when_85 ?_
  exact t_X7_when_89 hC hQ hf hK
set_option maxRecDepth 100000 in
set_option maxHeartbeats 4000000 in
theorem t_X7_when_48 {X : qaX} {l : Launch} {Y : qaY} {fin : Int32 × qaM} (hC : QC X l Y cX7_when RX7 9 8) (hQ : QRi X Y (some .int) fin.2 fin.1) {m : qaM} {v1 : Int32} {v2 : Int32} {v3 : Int32} {v4 : Int32} {v5 : Int32} {v6 : Int32} {z : ((qaM × Int32 × Int32 × Int32) ⊕ (Int32 × qaM))} (hf : b_X7_when_48 m v1 v2 v3 v4 v5 v6 = some z) (hK : (qa_K (fun s => QG X Y 9 s.1 48 [(0, .ref (Y.2.2.1 36)), (1, .int v1), (2, .int v2), (3, .int v3), (4, .int s.2.1), (5, .int s.2.2.1), (6, .int s.2.2.2)] []) (qa_eq fin)) z) : QG X Y 9 m 48 [(0, .ref (Y.2.2.1 36)), (1, .int v1), (2, .int v2), (3, .int v3), (4, .int v4), (5, .int v5), (6, .int v6)] [] := by
  unfold b_X7_when_48 at hf
  refine qi_iload hC 6 rfl dX7_when_48 ?_
  refine qi_iload_n hC 2 rfl rfl dX7_when_50 ?_
  refine qi_icmp_ge (tgt := 125) hC (by decide) dX7_when_51 (fun h => ?_) (fun h => ?_)
  · replace hf := qa_if_t h hf
    obtain ⟨z, rfl, hg⟩ := qa_inr_e hf; have hf := hg
    refine qi_sub hC [3, 4, 5] rfl ?_
    exact t_X7_when_125 hC hQ hf hK
  · replace hf := qa_if_f h hf
    refine qi_aload_n hC 0 rfl rfl dX7_when_54 ?_
    refine qi_iload_n hC 1 rfl rfl dX7_when_55 ?_
    refine qi_iload_n hC 2 rfl rfl dX7_when_56 ?_
    refine qi_iload hC 6 rfl dX7_when_57 ?_
    obtain ⟨q5, hq5, hf⟩ := Option.bind_eq_some_iff.mp hf
    refine qi_callVi hC (as := [.int v1, .int v2, .int v6]) (c_X7_goneOf _ _ _ _ _ _ _ hq5) kl_X7_282 sh_36 kc_X7_goneOf rfl rfl (by decide) (by decide) (Nat.le_of_ble_eq_true rfl) dX7_when_59 ?_
    refine qi_istore hC (by decide) rfl dX7_when_62 ?_
    refine qi_aload_n hC 1 rfl rfl dX7_when_64 ?_
    refine qi_geti hC kf_X7_278 sh_36 rfl dX7_when_65 ?_
    refine qi_if_eq (tgt := 88) hC (by decide) dX7_when_68 (fun h => ?_) (fun h => ?_)
    · replace hf := qa_if_t h hf
      refine qi_sub hC [1, 2, 3, 4, 5, 6, 7, 0] rfl ?_
      exact t_X7_when_88 hC hQ hf hK
    · replace hf := qa_if_f h hf
      refine qi_iload hC 5 rfl dX7_when_71 ?_
      refine qi_iconst hC dX7_when_73 kn_iconst_m1 ?_
      refine qi_icmp_eq (tgt := 84) hC (by decide) dX7_when_74 (fun h => ?_) (fun h => ?_)
      · replace hf := qa_if_t h hf
        refine qi_sub hC [1, 2, 3, 4, 5, 6, 7, 0] rfl ?_
        exact t_X7_when_84 hC hQ hf hK
      · replace hf := qa_if_f h hf
        refine qi_iload hC 0 rfl dX7_when_77 ?_
        refine qi_iload hC 6 rfl dX7_when_79 ?_
        refine qi_icmp_le (tgt := 88) hC (by decide) dX7_when_81 (fun h => ?_) (fun h => ?_)
        · replace hf := qa_if_t h hf
          refine qi_sub hC [1, 2, 3, 4, 5, 6, 7, 0] rfl ?_
          exact t_X7_when_88 hC hQ hf hK
        · replace hf := qa_if_f h hf
          refine qi_sub hC [1, 2, 3, 4, 5, 6, 7, 0] rfl ?_
          exact t_X7_when_84 hC hQ hf hK
set_option maxRecDepth 100000 in
set_option maxHeartbeats 4000000 in
theorem tn_X7_when_48 {X : qaX} {l : Launch} {Y : qaY} {fin : Int32 × qaM} (hC : QC X l Y cX7_when RX7 9 8) (hQ : QRi X Y (some .int) fin.2 fin.1) {v1 : Int32} {v2 : Int32} {v3 : Int32} {z : (Int32 × qaM)} (hK : (qa_eq fin) z) : ∀ (n : Nat) (s : qaM × Int32 × Int32 × Int32), qa_lp (fun s => b_X7_when_48 s.1 v1 v2 v3 s.2.1 s.2.2.1 s.2.2.2) n s = some z → QG X Y 9 s.1 48 [(0, .ref (Y.2.2.1 36)), (1, .int v1), (2, .int v2), (3, .int v3), (4, .int s.2.1), (5, .int s.2.2.1), (6, .int s.2.2.2)] [] := by
  intro n
  induction n with
  | zero => intro s hf; cases hf
  | succ n ih =>
    intro s hf
    obtain ⟨y, hy, hf⟩ := qa_lp_e hf
    refine t_X7_when_48 hC hQ hy ?_
    rcases hf with ⟨s', rfl, hf⟩ | rfl
    · exact ih s' hf
    · exact hK
set_option maxRecDepth 100000 in
set_option maxHeartbeats 4000000 in
theorem tl_X7_when_48 {X : qaX} {l : Launch} {Y : qaY} {fin : Int32 × qaM} (hC : QC X l Y cX7_when RX7 9 8) (hQ : QRi X Y (some .int) fin.2 fin.1) {m : qaM} {v1 : Int32} {v2 : Int32} {v3 : Int32} {v4 : Int32} {v5 : Int32} {v6 : Int32} {z : (Int32 × qaM)} (hf : lp_X7_when_48 m v1 v2 v3 v4 v5 v6 = some z) (hK : (qa_eq fin) z) : QG X Y 9 m 48 [(0, .ref (Y.2.2.1 36)), (1, .int v1), (2, .int v2), (3, .int v3), (4, .int v4), (5, .int v5), (6, .int v6)] [] :=
  tn_X7_when_48 hC hQ hK qa_F (m, v4, v5, v6) hf
set_option maxRecDepth 100000 in
set_option maxHeartbeats 4000000 in
theorem c_X7_when (l : Launch) (Y : qaY) (m : qaM) (v1 : Int32) (v2 : Int32) (v3 : Int32) (q : Int32 × qaM) (hf : f_X7_when m v1 v2 v3 = some q) : qaMi l Y yX7_when cX7_when 9 (some .int) 8 [.ref (Y.2.2.1 36), .int v1, .int v2, .int v3] m q.2 q.1 := by
  refine qa_enti (by decide +kernel) (Nat.le_of_ble_eq_true rfl) fun X hC hQ => ?_
  have hK : qa_eq q q := rfl
  unfold f_X7_when at hf
  refine qi_aload_n hC 0 rfl rfl dX7_when_0 ?_
  refine qi_iload_n hC 1 rfl rfl dX7_when_1 ?_
  obtain ⟨q1, hq1, hf⟩ := Option.bind_eq_some_iff.mp hf
  refine qi_callVi hC (as := [.int v1]) (c_X7_isLinen _ _ _ _ _ hq1) kl_X7_187 sh_36 kc_X7_isLinen rfl rfl (by decide) (by decide) (Nat.le_of_ble_eq_true rfl) dX7_when_2 ?_
  refine qi_if_ne (tgt := 11) hC (by decide) dX7_when_5 (fun h => ?_) (fun h => ?_)
  · replace hf := qa_if_f h hf
    refine qi_iload_n hC 2 rfl rfl dX7_when_11 ?_
    refine qi_iconst hC dX7_when_12 kn_iconst_1 ?_
    refine qi_bipush hC dX7_when_13 kn_bipush_60 ?_
    obtain ⟨q2, hq2, hf⟩ := Option.bind_eq_some_iff.mp hf
    refine qi_callSi hC (as := [.int v2, .int (1 : Int32), .int (60 : Int32)]) (c_X7_in _ _ _ _ _ _ _ hq2) kl_X7_90 kc_X7_in rfl rfl (by decide) (by decide) (Nat.le_of_ble_eq_true rfl) dX7_when_15 ?_
    refine qi_if_eq (tgt := 30) hC (by decide) dX7_when_18 (fun h => ?_) (fun h => ?_)
    · replace hf := qa_if_t h hf
      refine qi_bipush hC dX7_when_30 kn_bipush_m7 ?_
      obtain rfl := Option.some.inj hf
      exact qi_ireti hC hQ hK dX7_when_32
    · replace hf := qa_if_f h hf
      refine qi_iload_n hC 3 rfl rfl dX7_when_21 ?_
      refine qi_iconst hC dX7_when_22 kn_iconst_0 ?_
      refine qi_iconst hC dX7_when_23 kn_iconst_1 ?_
      obtain ⟨q3, hq3, hf⟩ := Option.bind_eq_some_iff.mp hf
      refine qi_callSi hC (as := [.int v3, .int (0 : Int32), .int (1 : Int32)]) (c_X7_in _ _ _ _ _ _ _ hq3) kl_X7_90 kc_X7_in rfl rfl (by decide) (by decide) (Nat.le_of_ble_eq_true rfl) dX7_when_24 ?_
      refine qi_if_ne (tgt := 33) hC (by decide) dX7_when_27 (fun h => ?_) (fun h => ?_)
      · replace hf := qa_if_f h hf
        refine qi_iconst hC dX7_when_33 kn_iconst_m1 ?_
        refine qi_istore hC (by decide) rfl dX7_when_34 ?_
        refine qi_aload_n hC 1 rfl rfl dX7_when_36 ?_
        refine qi_iload_n hC 2 rfl rfl dX7_when_37 ?_
        refine qi_iload_n hC 3 rfl rfl dX7_when_38 ?_
        refine qi_iconst hC dX7_when_39 kn_iconst_m1 ?_
        obtain ⟨q4, hq4, hf⟩ := Option.bind_eq_some_iff.mp hf
        refine qi_callVi hC (as := [.int v1, .int v2, .int (-1 : Int32)]) (c_X7_goneOf _ _ _ _ _ _ _ hq4) kl_X7_282 sh_36 kc_X7_goneOf rfl rfl (by decide) (by decide) (Nat.le_of_ble_eq_true rfl) dX7_when_40 ?_
        refine qi_istore hC (by decide) rfl dX7_when_43 ?_
        refine qi_iconst hC dX7_when_45 kn_iconst_0 ?_
        refine qi_istore hC (by decide) rfl dX7_when_46 ?_
        refine qi_sub hC [3, 4, 5, 6, 2, 1, 0] rfl ?_
        exact tl_X7_when_48 hC hQ hf hK
      · replace hf := qa_if_t h hf
        refine qi_bipush hC dX7_when_30 kn_bipush_m7 ?_
        obtain rfl := Option.some.inj hf
        exact qi_ireti hC hQ hK dX7_when_32
  · replace hf := qa_if_t h hf
    refine qi_bipush hC dX7_when_8 kn_bipush_m5 ?_
    obtain rfl := Option.some.inj hf
    exact qi_ireti hC hQ hK dX7_when_10
set_option maxRecDepth 100000 in
set_option maxHeartbeats 4000000 in
theorem c_X7_tooFewBy (l : Launch) (Y : qaY) (m : qaM) (v1 : Int32) (v2 : Int32) (v3 : Int32) (q : Int32 × qaM) (hf : f_X7_tooFewBy m v1 v2 v3 = some q) : qaMi l Y yX7_tooFewBy cX7_tooFewBy 5 (some .int) 8 [.ref (Y.2.2.1 36), .int v1, .int v2, .int v3] m q.2 q.1 := by
  refine qa_enti (by decide +kernel) (Nat.le_of_ble_eq_true rfl) fun X hC hQ => ?_
  have hK : qa_eq q q := rfl
  unfold f_X7_tooFewBy at hf
  refine qi_aload_n hC 0 rfl rfl dX7_tooFewBy_0 ?_
  refine qi_getr hC kf_X7_22 sh_36 rfl dX7_tooFewBy_1 ?_
  refine qi_iload_n hC 1 rfl rfl dX7_tooFewBy_4 ?_
  obtain ⟨h1, hf⟩ := qa_ck_e hf
  refine qi_iald hC rfl sh_41 (qa_in_v h1) dX7_tooFewBy_5 ?_
  obtain ⟨x2, ex2, hf⟩ := qa_lt_e hf
  refine qi_nmi hC ex2 ?_
  refine qi_istore hC (by decide) rfl dX7_tooFewBy_6 ?_
  refine qi_aload_n hC 1 rfl rfl dX7_tooFewBy_8 ?_
  refine qi_getr hC kf_X7_22 sh_36 rfl dX7_tooFewBy_9 ?_
  refine qi_iload_n hC 2 rfl rfl dX7_tooFewBy_12 ?_
  refine qi_iload_n hC 3 rfl rfl dX7_tooFewBy_13 ?_
  obtain ⟨h3, hf⟩ := qa_ck_e hf
  obtain ⟨m4, em4, hf⟩ := qa_lt_e hf
  refine qi_iast hC rfl em4 sh_41 (qa_in_v h3) dX7_tooFewBy_14 ?_
  refine qi_aload_n hC 1 rfl rfl dX7_tooFewBy_15 ?_
  refine qi_iload_n hC 4 rfl rfl dX7_tooFewBy_16 ?_
  obtain ⟨q5, hq5, hf⟩ := Option.bind_eq_some_iff.mp hf
  refine qi_callVv hC (as := [.int v3]) (c_X7_goes _ _ _ _ _ hq5) kl_X7_269 sh_36 kc_X7_goes rfl rfl (by decide) (by decide) (Nat.le_of_ble_eq_true rfl) dX7_tooFewBy_17 ?_
  refine qi_aload_n hC 1 rfl rfl dX7_tooFewBy_20 ?_
  refine qi_getr hC kf_X7_22 sh_36 rfl dX7_tooFewBy_21 ?_
  refine qi_iload_n hC 2 rfl rfl dX7_tooFewBy_24 ?_
  refine qi_iload hC 0 rfl dX7_tooFewBy_25 ?_
  obtain ⟨h6, hf⟩ := qa_ck_e hf
  obtain ⟨m7, em7, hf⟩ := qa_lt_e hf
  refine qi_iast hC rfl em7 sh_41 (qa_in_v h6) dX7_tooFewBy_27 ?_
  refine qi_aload_n hC 1 rfl rfl dX7_tooFewBy_28 ?_
  refine qi_geti hC kf_X7_214 sh_36 rfl dX7_tooFewBy_29 ?_
  obtain rfl := Option.some.inj hf
  exact qi_ireti hC hQ hK dX7_tooFewBy_32
set_option maxRecDepth 100000 in
set_option maxHeartbeats 4000000 in
theorem t_X7_enough_55 {X : qaX} {l : Launch} {Y : qaY} {fin : Int32 × qaM} (hC : QC X l Y cX7_enough RX7 5 9) (hQ : QRi X Y (some .int) fin.2 fin.1) {m : qaM} {v1 : Int32} {v3 : Int32} {v4 : Int32} {s0 : Int32} {z : ((qaM × Int32 × Int32 × Int32) ⊕ (Int32 × qaM))} (hf : b_X7_enough_55 m v1 v3 v4 s0 = some z) (hK : (qa_K (fun s => QG X Y 5 s.1 17 [(0, .ref (Y.2.2.1 36)), (1, .int v1), (2, .int s.2.1), (3, .int s.2.2.1), (4, .int s.2.2.2)] []) (qa_eq fin)) z) : QG X Y 5 m 55 [(0, .ref (Y.2.2.1 36)), (1, .int v1), (3, .int v3), (4, .int v4)] [.int s0] := by
  unfold b_X7_enough_55 at hf
  refine qi_istore_n hC rfl (by decide) rfl dX7_enough_55 ?_
  obtain ⟨x3, ex3, hf⟩ := qa_lt_e hf
  refine qi_iinc hC (n := 1) (v := x3) 4 rfl ((congrArg (fun q => v4 + q) kn_iconst_1).trans ex3.symm) (by decide) rfl dX7_enough_56 ?_
  refine qi_goto (tgt := 17) hC (by decide) dX7_enough_59 ?_
  obtain rfl := Option.some.inj hf
  refine qi_sub hC [2, 3, 1, 4, 0] rfl ?_
  exact hK
set_option maxRecDepth 100000 in
set_option maxHeartbeats 4000000 in
theorem t_X7_enough_44 {X : qaX} {l : Launch} {Y : qaY} {fin : Int32 × qaM} (hC : QC X l Y cX7_enough RX7 5 9) (hQ : QRi X Y (some .int) fin.2 fin.1) {m : qaM} {v1 : Int32} {v2 : Int32} {v4 : Int32} {s0 : Int32} {z : ((qaM × Int32 × Int32 × Int32) ⊕ (Int32 × qaM))} (hf : b_X7_enough_44 m v1 v2 v4 s0 = some z) (hK : (qa_K (fun s => QG X Y 5 s.1 17 [(0, .ref (Y.2.2.1 36)), (1, .int v1), (2, .int s.2.1), (3, .int s.2.2.1), (4, .int s.2.2.2)] []) (qa_eq fin)) z) : QG X Y 5 m 44 [(0, .ref (Y.2.2.1 36)), (1, .int v1), (2, .int v2), (4, .int v4)] [.int s0] := by
  unfold b_X7_enough_44 at hf
  refine qi_istore_n hC rfl (by decide) rfl dX7_enough_44 ?_
  refine qi_iload_n hC 0 rfl rfl dX7_enough_45 ?_
  refine qi_if_eq (tgt := 54) hC (by decide) dX7_enough_46 (fun h => ?_) (fun h => ?_)
  · replace hf := qa_if_t h hf
    refine qi_iload_n hC 3 rfl rfl dX7_enough_54 ?_
    refine qi_sub hC [1, 2, 0, 4] rfl ?_
    exact t_X7_enough_55 hC hQ hf hK
  · replace hf := qa_if_f h hf
    refine qi_iload hC 4 rfl dX7_enough_49 ?_
    refine qi_goto (tgt := 55) hC (by decide) dX7_enough_51 ?_
    refine qi_sub hC [1, 2, 0, 4] rfl ?_
    exact t_X7_enough_55 hC hQ hf hK
set_option maxRecDepth 100000 in
set_option maxHeartbeats 4000000 in
theorem t_X7_enough_17 {X : qaX} {l : Launch} {Y : qaY} {fin : Int32 × qaM} (hC : QC X l Y cX7_enough RX7 5 9) (hQ : QRi X Y (some .int) fin.2 fin.1) {m : qaM} {v1 : Int32} {v2 : Int32} {v3 : Int32} {v4 : Int32} {z : ((qaM × Int32 × Int32 × Int32) ⊕ (Int32 × qaM))} (hf : b_X7_enough_17 m v1 v2 v3 v4 = some z) (hK : (qa_K (fun s => QG X Y 5 s.1 17 [(0, .ref (Y.2.2.1 36)), (1, .int v1), (2, .int s.2.1), (3, .int s.2.2.1), (4, .int s.2.2.2)] []) (qa_eq fin)) z) : QG X Y 5 m 17 [(0, .ref (Y.2.2.1 36)), (1, .int v1), (2, .int v2), (3, .int v3), (4, .int v4)] [] := by
  unfold b_X7_enough_17 at hf
  refine qi_iload hC 4 rfl dX7_enough_17 ?_
  refine qi_bipush hC dX7_enough_19 kn_bipush_8 ?_
  refine qi_icmp_gt (tgt := 62) hC (by decide) dX7_enough_21 (fun h => ?_) (fun h => ?_)
  · replace hf := qa_if_t h hf
    refine qi_iload_n hC 2 rfl rfl dX7_enough_62 ?_
    obtain ⟨z, rfl, hg⟩ := qa_inr_e hf; have hf := hg
    obtain rfl := Option.some.inj hf
    exact qi_ireti hC hQ hK dX7_enough_63
  · replace hf := qa_if_f h hf
    refine qi_iload_n hC 3 rfl rfl dX7_enough_24 ?_
    refine qi_if_eq (tgt := 62) hC (by decide) dX7_enough_25 (fun h => ?_) (fun h => ?_)
    · replace hf := qa_if_t h hf
      refine qi_iload_n hC 2 rfl rfl dX7_enough_62 ?_
      obtain ⟨z, rfl, hg⟩ := qa_inr_e hf; have hf := hg
      obtain rfl := Option.some.inj hf
      exact qi_ireti hC hQ hK dX7_enough_63
    · replace hf := qa_if_f h hf
      refine qi_aload_n hC 0 rfl rfl dX7_enough_28 ?_
      refine qi_iconst hC dX7_enough_29 kn_iconst_0 ?_
      refine qi_iload hC 4 rfl dX7_enough_30 ?_
      refine qi_iload_n hC 1 rfl rfl dX7_enough_32 ?_
      obtain ⟨q2, hq2, hf⟩ := Option.bind_eq_some_iff.mp hf
      refine qi_callVi hC (as := [.int (0 : Int32), .int v4, .int v1]) (c_X7_tooFewBy _ _ _ _ _ _ _ hq2) kl_X7_285 sh_36 kc_X7_tooFewBy rfl rfl (by decide) (by decide) (Nat.le_of_ble_eq_true rfl) dX7_enough_33 ?_
      refine qi_if_ne (tgt := 43) hC (by decide) dX7_enough_36 (fun h => ?_) (fun h => ?_)
      · replace hf := qa_if_f h hf
        refine qi_iconst hC dX7_enough_43 kn_iconst_0 ?_
        refine qi_sub hC [0, 1, 2, 4] rfl ?_
        exact t_X7_enough_44 hC hQ hf hK
      · replace hf := qa_if_t h hf
        refine qi_iconst hC dX7_enough_39 kn_iconst_1 ?_
        refine qi_goto (tgt := 44) hC (by decide) dX7_enough_40 ?_
        refine qi_sub hC [0, 1, 2, 4] rfl ?_
        exact t_X7_enough_44 hC hQ hf hK
set_option maxRecDepth 100000 in
set_option maxHeartbeats 4000000 in
theorem tn_X7_enough_17 {X : qaX} {l : Launch} {Y : qaY} {fin : Int32 × qaM} (hC : QC X l Y cX7_enough RX7 5 9) (hQ : QRi X Y (some .int) fin.2 fin.1) {v1 : Int32} {z : (Int32 × qaM)} (hK : (qa_eq fin) z) : ∀ (n : Nat) (s : qaM × Int32 × Int32 × Int32), qa_lp (fun s => b_X7_enough_17 s.1 v1 s.2.1 s.2.2.1 s.2.2.2) n s = some z → QG X Y 5 s.1 17 [(0, .ref (Y.2.2.1 36)), (1, .int v1), (2, .int s.2.1), (3, .int s.2.2.1), (4, .int s.2.2.2)] [] := by
  intro n
  induction n with
  | zero => intro s hf; cases hf
  | succ n ih =>
    intro s hf
    obtain ⟨y, hy, hf⟩ := qa_lp_e hf
    refine t_X7_enough_17 hC hQ hy ?_
    rcases hf with ⟨s', rfl, hf⟩ | rfl
    · exact ih s' hf
    · exact hK
set_option maxRecDepth 100000 in
set_option maxHeartbeats 4000000 in
theorem tl_X7_enough_17 {X : qaX} {l : Launch} {Y : qaY} {fin : Int32 × qaM} (hC : QC X l Y cX7_enough RX7 5 9) (hQ : QRi X Y (some .int) fin.2 fin.1) {m : qaM} {v1 : Int32} {v2 : Int32} {v3 : Int32} {v4 : Int32} {z : (Int32 × qaM)} (hf : lp_X7_enough_17 m v1 v2 v3 v4 = some z) (hK : (qa_eq fin) z) : QG X Y 5 m 17 [(0, .ref (Y.2.2.1 36)), (1, .int v1), (2, .int v2), (3, .int v3), (4, .int v4)] [] :=
  tn_X7_enough_17 hC hQ hK qa_F (m, v2, v3, v4) hf
set_option maxRecDepth 100000 in
set_option maxHeartbeats 4000000 in
theorem c_X7_enough (l : Launch) (Y : qaY) (m : qaM) (v1 : Int32) (q : Int32 × qaM) (hf : f_X7_enough m v1 = some q) : qaMi l Y yX7_enough cX7_enough 5 (some .int) 9 [.ref (Y.2.2.1 36), .int v1] m q.2 q.1 := by
  refine qa_enti (by decide +kernel) (Nat.le_of_ble_eq_true rfl) fun X hC hQ => ?_
  have hK : qa_eq q q := rfl
  unfold f_X7_enough at hf
  refine qi_iload_n hC 1 rfl rfl dX7_enough_0 ?_
  obtain ⟨q1, hq1, hf⟩ := Option.bind_eq_some_iff.mp hf
  refine qi_callSi hC (as := [.int v1]) (c_X7_areWeeks _ _ _ _ _ hq1) kl_X7_266 kc_X7_areWeeks rfl rfl (by decide) (by decide) (Nat.le_of_ble_eq_true rfl) dX7_enough_1 ?_
  refine qi_if_ne (tgt := 10) hC (by decide) dX7_enough_4 (fun h => ?_) (fun h => ?_)
  · replace hf := qa_if_f h hf
    refine qi_iconst hC dX7_enough_10 kn_iconst_0 ?_
    refine qi_istore_n hC rfl (by decide) rfl dX7_enough_11 ?_
    refine qi_iconst hC dX7_enough_12 kn_iconst_1 ?_
    refine qi_istore_n hC rfl (by decide) rfl dX7_enough_13 ?_
    refine qi_iconst hC dX7_enough_14 kn_iconst_1 ?_
    refine qi_istore hC (by decide) rfl dX7_enough_15 ?_
    refine qi_sub hC [3, 4, 2, 1, 0] rfl ?_
    exact tl_X7_enough_17 hC hQ hf hK
  · replace hf := qa_if_t h hf
    refine qi_bipush hC dX7_enough_7 kn_bipush_m2 ?_
    obtain rfl := Option.some.inj hf
    exact qi_ireti hC hQ hK dX7_enough_9
set_option maxRecDepth 100000 in
set_option maxHeartbeats 4000000 in
theorem t_X7_feast_94 {X : qaX} {l : Launch} {Y : qaY} {fin : Int32 × qaM} (hC : QC X l Y cX7_feast RX7 6 8) (hQ : QRi X Y (some .int) fin.2 fin.1) {m : qaM} {v4 : Int32} {z : (Int32 × qaM)} (hf : b_X7_feast_94 m v4 = some z) (hK : (qa_eq fin) z) : QG X Y 6 m 94 [(0, .ref (Y.2.2.1 36)), (4, .int v4)] [] := by
  unfold b_X7_feast_94 at hf
  refine qi_aload_n hC 0 rfl rfl dX7_feast_94 ?_
  obtain ⟨q7, hq7, hf⟩ := Option.bind_eq_some_iff.mp hf
  refine qi_callVv hC (as := []) (c_X7_laysBack _ _ _ _ hq7) kl_X7_263 sh_36 kc_X7_laysBack rfl rfl (by decide) (by decide) (Nat.le_of_ble_eq_true rfl) dX7_feast_95 ?_
  refine qi_aload_n hC 0 rfl rfl dX7_feast_98 ?_
  refine qi_geti hC kf_X7_214 sh_36 rfl dX7_feast_99 ?_
  refine qi_iload hC 1 rfl dX7_feast_102 ?_
  refine qi_isub hC dX7_feast_104 ?_
  obtain rfl := Option.some.inj hf
  exact qi_ireti hC hQ hK dX7_feast_105
set_option maxRecDepth 100000 in
set_option maxHeartbeats 4000000 in
theorem t_X7_feast_79 {X : qaX} {l : Launch} {Y : qaY} {fin : Int32 × qaM} (hC : QC X l Y cX7_feast RX7 6 8) (hQ : QRi X Y (some .int) fin.2 fin.1) {m : qaM} {v1 : Int32} {v2 : Int32} {v3 : Int32} {v4 : Int32} {v5 : Int32} {s1 : Int32} {s2 : Int32} {z : ((qaM × Int32) ⊕ (Int32 × qaM))} (hf : b_X7_feast_79 m v1 v2 v3 v4 v5 s1 s2 = some z) (hK : (qa_K (fun s => QG X Y 6 s.1 54 [(0, .ref (Y.2.2.1 36)), (1, .int v1), (2, .int v2), (3, .int v3), (4, .int v4), (5, .int s.2)] []) (qa_eq fin)) z) : QG X Y 6 m 79 [(0, .ref (Y.2.2.1 36)), (1, .int v1), (2, .int v2), (3, .int v3), (4, .int v4), (5, .int v5)] [.int s2, .int s1, .ref (Y.2.2.1 36)] := by
  unfold b_X7_feast_79 at hf
  refine qi_aload_n hC 0 rfl rfl dX7_feast_79 ?_
  refine qi_getr hC kf_X7_22 sh_36 rfl dX7_feast_80 ?_
  refine qi_iconst hC dX7_feast_83 kn_iconst_2 ?_
  refine qi_iald hC tn_2 sh_41 vi_2_4 dX7_feast_84 ?_
  obtain ⟨q8, hq8, hf⟩ := Option.bind_eq_some_iff.mp hf
  refine qi_callVv hC (as := [.int s1, .int s2, .int (m 41 2)]) (c_X7_weekBy _ _ _ _ _ _ _ hq8) kl_X7_250 sh_36 kc_X7_weekBy rfl rfl (by decide) (by decide) (Nat.le_of_ble_eq_true rfl) dX7_feast_85 ?_
  obtain ⟨x9, ex9, hf⟩ := qa_lt_e hf
  refine qi_iinc hC (n := 1) (v := x9) 5 rfl ((congrArg (fun q => v5 + q) kn_iconst_1).trans ex9.symm) (by decide) rfl dX7_feast_88 ?_
  refine qi_goto (tgt := 54) hC (by decide) dX7_feast_91 ?_
  obtain rfl := Option.some.inj hf
  refine qi_sub hC [1, 2, 3, 4, 5, 0] rfl ?_
  exact hK
set_option maxRecDepth 100000 in
set_option maxHeartbeats 4000000 in
theorem t_X7_feast_54 {X : qaX} {l : Launch} {Y : qaY} {fin : Int32 × qaM} (hC : QC X l Y cX7_feast RX7 6 8) (hQ : QRi X Y (some .int) fin.2 fin.1) {m : qaM} {v1 : Int32} {v2 : Int32} {v3 : Int32} {v4 : Int32} {v5 : Int32} {z : ((qaM × Int32) ⊕ (Int32 × qaM))} (hf : b_X7_feast_54 m v1 v2 v3 v4 v5 = some z) (hK : (qa_K (fun s => QG X Y 6 s.1 54 [(0, .ref (Y.2.2.1 36)), (1, .int v1), (2, .int v2), (3, .int v3), (4, .int v4), (5, .int s.2)] []) (qa_eq fin)) z) : QG X Y 6 m 54 [(0, .ref (Y.2.2.1 36)), (1, .int v1), (2, .int v2), (3, .int v3), (4, .int v4), (5, .int v5)] [] := by
  unfold b_X7_feast_54 at hf
  refine qi_iload hC 5 rfl dX7_feast_54 ?_
  refine qi_iload_n hC 1 rfl rfl dX7_feast_56 ?_
  refine qi_icmp_ge (tgt := 94) hC (by decide) dX7_feast_57 (fun h => ?_) (fun h => ?_)
  · replace hf := qa_if_t h hf
    obtain ⟨z, rfl, hg⟩ := qa_inr_e hf; have hf := hg
    refine qi_sub hC [0, 4] rfl ?_
    exact t_X7_feast_94 hC hQ hf hK
  · replace hf := qa_if_f h hf
    refine qi_aload_n hC 0 rfl rfl dX7_feast_60 ?_
    refine qi_iload hC 5 rfl dX7_feast_61 ?_
    refine qi_iload hC 5 rfl dX7_feast_63 ?_
    refine qi_iload_n hC 2 rfl rfl dX7_feast_65 ?_
    refine qi_icmp_ne (tgt := 73) hC (by decide) dX7_feast_66 (fun h => ?_) (fun h => ?_)
    · replace hf := qa_if_f h hf
      refine qi_aload_n hC 0 rfl rfl dX7_feast_73 ?_
      refine qi_getr hC kf_X7_22 sh_36 rfl dX7_feast_74 ?_
      refine qi_iconst hC dX7_feast_77 kn_iconst_0 ?_
      refine qi_iald hC tn_0 sh_41 vi_0_4 dX7_feast_78 ?_
      exact t_X7_feast_79 hC hQ hf hK
    · replace hf := qa_if_t h hf
      refine qi_iload_n hC 3 rfl rfl dX7_feast_69 ?_
      refine qi_goto (tgt := 79) hC (by decide) dX7_feast_70 ?_
      exact t_X7_feast_79 hC hQ hf hK
set_option maxRecDepth 100000 in
set_option maxHeartbeats 4000000 in
theorem tn_X7_feast_54 {X : qaX} {l : Launch} {Y : qaY} {fin : Int32 × qaM} (hC : QC X l Y cX7_feast RX7 6 8) (hQ : QRi X Y (some .int) fin.2 fin.1) {v1 : Int32} {v2 : Int32} {v3 : Int32} {v4 : Int32} {z : (Int32 × qaM)} (hK : (qa_eq fin) z) : ∀ (n : Nat) (s : qaM × Int32), qa_lp (fun s => b_X7_feast_54 s.1 v1 v2 v3 v4 s.2) n s = some z → QG X Y 6 s.1 54 [(0, .ref (Y.2.2.1 36)), (1, .int v1), (2, .int v2), (3, .int v3), (4, .int v4), (5, .int s.2)] [] := by
  intro n
  induction n with
  | zero => intro s hf; cases hf
  | succ n ih =>
    intro s hf
    obtain ⟨y, hy, hf⟩ := qa_lp_e hf
    refine t_X7_feast_54 hC hQ hy ?_
    rcases hf with ⟨s', rfl, hf⟩ | rfl
    · exact ih s' hf
    · exact hK
set_option maxRecDepth 100000 in
set_option maxHeartbeats 4000000 in
theorem tl_X7_feast_54 {X : qaX} {l : Launch} {Y : qaY} {fin : Int32 × qaM} (hC : QC X l Y cX7_feast RX7 6 8) (hQ : QRi X Y (some .int) fin.2 fin.1) {m : qaM} {v1 : Int32} {v2 : Int32} {v3 : Int32} {v4 : Int32} {v5 : Int32} {z : (Int32 × qaM)} (hf : lp_X7_feast_54 m v1 v2 v3 v4 v5 = some z) (hK : (qa_eq fin) z) : QG X Y 6 m 54 [(0, .ref (Y.2.2.1 36)), (1, .int v1), (2, .int v2), (3, .int v3), (4, .int v4), (5, .int v5)] [] :=
  tn_X7_feast_54 hC hQ hK qa_F (m, v5) hf
set_option maxRecDepth 100000 in
set_option maxHeartbeats 4000000 in
theorem c_X7_feast (l : Launch) (Y : qaY) (m : qaM) (v1 : Int32) (v2 : Int32) (v3 : Int32) (q : Int32 × qaM) (hf : f_X7_feast m v1 v2 v3 = some q) : qaMi l Y yX7_feast cX7_feast 6 (some .int) 8 [.ref (Y.2.2.1 36), .int v1, .int v2, .int v3] m q.2 q.1 := by
  refine qa_enti (by decide +kernel) (Nat.le_of_ble_eq_true rfl) fun X hC hQ => ?_
  have hK : qa_eq q q := rfl
  unfold f_X7_feast at hf
  refine qi_iload_n hC 1 rfl rfl dX7_feast_0 ?_
  refine qi_iconst hC dX7_feast_1 kn_iconst_1 ?_
  refine qi_sipush hC dX7_feast_2 kn_sipush_200 ?_
  obtain ⟨q1, hq1, hf⟩ := Option.bind_eq_some_iff.mp hf
  refine qi_callSi hC (as := [.int v1, .int (1 : Int32), .int (200 : Int32)]) (c_X7_in _ _ _ _ _ _ _ hq1) kl_X7_90 kc_X7_in rfl rfl (by decide) (by decide) (Nat.le_of_ble_eq_true rfl) dX7_feast_5 ?_
  refine qi_if_eq (tgt := 32) hC (by decide) dX7_feast_8 (fun h => ?_) (fun h => ?_)
  · replace hf := qa_if_t h hf
    refine qi_ldcw hC kk_X7_288 dX7_feast_32 ?_
    obtain rfl := Option.some.inj hf
    exact qi_ireti hC hQ hK dX7_feast_35
  · replace hf := qa_if_f h hf
    refine qi_iload_n hC 2 rfl rfl dX7_feast_11 ?_
    refine qi_iconst hC dX7_feast_12 kn_iconst_0 ?_
    refine qi_iload_n hC 1 rfl rfl dX7_feast_13 ?_
    refine qi_iconst hC dX7_feast_14 kn_iconst_1 ?_
    refine qi_isub hC dX7_feast_15 ?_
    obtain ⟨q2, hq2, hf⟩ := Option.bind_eq_some_iff.mp hf
    refine qi_callSi hC (as := [.int v2, .int (0 : Int32), .int (v1 - (1 : Int32))]) (c_X7_in _ _ _ _ _ _ _ hq2) kl_X7_90 kc_X7_in rfl rfl (by decide) (by decide) (Nat.le_of_ble_eq_true rfl) dX7_feast_16 ?_
    refine qi_if_eq (tgt := 32) hC (by decide) dX7_feast_19 (fun h => ?_) (fun h => ?_)
    · replace hf := qa_if_t h hf
      refine qi_ldcw hC kk_X7_288 dX7_feast_32 ?_
      obtain rfl := Option.some.inj hf
      exact qi_ireti hC hQ hK dX7_feast_35
    · replace hf := qa_if_f h hf
      refine qi_iload_n hC 3 rfl rfl dX7_feast_22 ?_
      refine qi_iconst hC dX7_feast_23 kn_iconst_0 ?_
      refine qi_bipush hC dX7_feast_24 kn_bipush_8 ?_
      obtain ⟨q3, hq3, hf⟩ := Option.bind_eq_some_iff.mp hf
      refine qi_callSi hC (as := [.int v3, .int (0 : Int32), .int (8 : Int32)]) (c_X7_in _ _ _ _ _ _ _ hq3) kl_X7_90 kc_X7_in rfl rfl (by decide) (by decide) (Nat.le_of_ble_eq_true rfl) dX7_feast_26 ?_
      refine qi_if_ne (tgt := 36) hC (by decide) dX7_feast_29 (fun h => ?_) (fun h => ?_)
      · replace hf := qa_if_f h hf
        refine qi_aload_n hC 0 rfl rfl dX7_feast_36 ?_
        refine qi_iload_n hC 1 rfl rfl dX7_feast_37 ?_
        obtain ⟨q4, hq4, hf⟩ := Option.bind_eq_some_iff.mp hf
        refine qi_callVv hC (as := [.int v1]) (c_X7_goes _ _ _ _ _ hq4) kl_X7_269 sh_36 kc_X7_goes rfl rfl (by decide) (by decide) (Nat.le_of_ble_eq_true rfl) dX7_feast_38 ?_
        refine qi_aload_n hC 0 rfl rfl dX7_feast_41 ?_
        refine qi_geti hC kf_X7_214 sh_36 rfl dX7_feast_42 ?_
        obtain ⟨x5, ex5, hf⟩ := qa_lt_e hf
        refine qi_nmi hC ex5 ?_
        refine qi_istore hC (by decide) rfl dX7_feast_45 ?_
        refine qi_aload_n hC 1 rfl rfl dX7_feast_47 ?_
        obtain ⟨q6, hq6, hf⟩ := Option.bind_eq_some_iff.mp hf
        refine qi_callVv hC (as := []) (c_X7_keeps _ _ _ _ hq6) kl_X7_260 sh_36 kc_X7_keeps rfl rfl (by decide) (by decide) (Nat.le_of_ble_eq_true rfl) dX7_feast_48 ?_
        refine qi_iconst hC dX7_feast_51 kn_iconst_0 ?_
        refine qi_istore hC (by decide) rfl dX7_feast_52 ?_
        refine qi_sub hC [2, 3, 4, 5, 1, 0] rfl ?_
        exact tl_X7_feast_54 hC hQ hf hK
      · replace hf := qa_if_t h hf
        refine qi_ldcw hC kk_X7_288 dX7_feast_32 ?_
        obtain rfl := Option.some.inj hf
        exact qi_ireti hC hQ hK dX7_feast_35
set_option maxRecDepth 100000 in
set_option maxHeartbeats 4000000 in
theorem t_X7_laundry_34 {X : qaX} {l : Launch} {Y : qaY} {fin : Int32 × qaM} (hC : QC X l Y cX7_laundry RX7 4 9) (hQ : QRi X Y (some .int) fin.2 fin.1) {m : qaM} {v1 : Int32} {v3 : Int32} {s0 : Int32} {z : ((qaM × Int32 × Int32) ⊕ (Int32 × qaM))} (hf : b_X7_laundry_34 m v1 v3 s0 = some z) (hK : (qa_K (fun s => QG X Y 4 s.1 14 [(0, .ref (Y.2.2.1 36)), (1, .int v1), (2, .int s.2.1), (3, .int s.2.2)] []) (qa_eq fin)) z) : QG X Y 4 m 34 [(0, .ref (Y.2.2.1 36)), (1, .int v1), (3, .int v3)] [.int s0] := by
  unfold b_X7_laundry_34 at hf
  refine qi_istore_n hC rfl (by decide) rfl dX7_laundry_34 ?_
  obtain ⟨x3, ex3, hf⟩ := qa_lt_e hf
  refine qi_iinc hC (n := 1) (v := x3) 3 rfl ((congrArg (fun q => v3 + q) kn_iconst_1).trans ex3.symm) (by decide) rfl dX7_laundry_35 ?_
  refine qi_goto (tgt := 14) hC (by decide) dX7_laundry_38 ?_
  obtain rfl := Option.some.inj hf
  refine qi_sub hC [2, 3, 1, 0] rfl ?_
  exact hK
set_option maxRecDepth 100000 in
set_option maxHeartbeats 4000000 in
theorem t_X7_laundry_14 {X : qaX} {l : Launch} {Y : qaY} {fin : Int32 × qaM} (hC : QC X l Y cX7_laundry RX7 4 9) (hQ : QRi X Y (some .int) fin.2 fin.1) {m : qaM} {v1 : Int32} {v2 : Int32} {v3 : Int32} {z : ((qaM × Int32 × Int32) ⊕ (Int32 × qaM))} (hf : b_X7_laundry_14 m v1 v2 v3 = some z) (hK : (qa_K (fun s => QG X Y 4 s.1 14 [(0, .ref (Y.2.2.1 36)), (1, .int v1), (2, .int s.2.1), (3, .int s.2.2)] []) (qa_eq fin)) z) : QG X Y 4 m 14 [(0, .ref (Y.2.2.1 36)), (1, .int v1), (2, .int v2), (3, .int v3)] [] := by
  unfold b_X7_laundry_14 at hf
  refine qi_iload_n hC 3 rfl rfl dX7_laundry_14 ?_
  refine qi_iconst hC dX7_laundry_15 kn_iconst_3 ?_
  refine qi_icmp_gt (tgt := 41) hC (by decide) dX7_laundry_16 (fun h => ?_) (fun h => ?_)
  · replace hf := qa_if_t h hf
    refine qi_iload_n hC 2 rfl rfl dX7_laundry_41 ?_
    obtain ⟨z, rfl, hg⟩ := qa_inr_e hf; have hf := hg
    obtain rfl := Option.some.inj hf
    exact qi_ireti hC hQ hK dX7_laundry_42
  · replace hf := qa_if_f h hf
    refine qi_aload_n hC 0 rfl rfl dX7_laundry_19 ?_
    refine qi_iconst hC dX7_laundry_20 kn_iconst_1 ?_
    refine qi_iload_n hC 3 rfl rfl dX7_laundry_21 ?_
    refine qi_iload_n hC 1 rfl rfl dX7_laundry_22 ?_
    obtain ⟨q2, hq2, hf⟩ := Option.bind_eq_some_iff.mp hf
    refine qi_callVi hC (as := [.int (1 : Int32), .int v3, .int v1]) (c_X7_tooFewBy _ _ _ _ _ _ _ hq2) kl_X7_285 sh_36 kc_X7_tooFewBy rfl rfl (by decide) (by decide) (Nat.le_of_ble_eq_true rfl) dX7_laundry_23 ?_
    refine qi_if_ne (tgt := 33) hC (by decide) dX7_laundry_26 (fun h => ?_) (fun h => ?_)
    · replace hf := qa_if_f h hf
      refine qi_iload_n hC 2 rfl rfl dX7_laundry_33 ?_
      refine qi_sub hC [0, 1, 3] rfl ?_
      exact t_X7_laundry_34 hC hQ hf hK
    · replace hf := qa_if_t h hf
      refine qi_iload_n hC 3 rfl rfl dX7_laundry_29 ?_
      refine qi_goto (tgt := 34) hC (by decide) dX7_laundry_30 ?_
      refine qi_sub hC [0, 1, 3] rfl ?_
      exact t_X7_laundry_34 hC hQ hf hK
set_option maxRecDepth 100000 in
set_option maxHeartbeats 4000000 in
theorem tn_X7_laundry_14 {X : qaX} {l : Launch} {Y : qaY} {fin : Int32 × qaM} (hC : QC X l Y cX7_laundry RX7 4 9) (hQ : QRi X Y (some .int) fin.2 fin.1) {v1 : Int32} {z : (Int32 × qaM)} (hK : (qa_eq fin) z) : ∀ (n : Nat) (s : qaM × Int32 × Int32), qa_lp (fun s => b_X7_laundry_14 s.1 v1 s.2.1 s.2.2) n s = some z → QG X Y 4 s.1 14 [(0, .ref (Y.2.2.1 36)), (1, .int v1), (2, .int s.2.1), (3, .int s.2.2)] [] := by
  intro n
  induction n with
  | zero => intro s hf; cases hf
  | succ n ih =>
    intro s hf
    obtain ⟨y, hy, hf⟩ := qa_lp_e hf
    refine t_X7_laundry_14 hC hQ hy ?_
    rcases hf with ⟨s', rfl, hf⟩ | rfl
    · exact ih s' hf
    · exact hK
set_option maxRecDepth 100000 in
set_option maxHeartbeats 4000000 in
theorem tl_X7_laundry_14 {X : qaX} {l : Launch} {Y : qaY} {fin : Int32 × qaM} (hC : QC X l Y cX7_laundry RX7 4 9) (hQ : QRi X Y (some .int) fin.2 fin.1) {m : qaM} {v1 : Int32} {v2 : Int32} {v3 : Int32} {z : (Int32 × qaM)} (hf : lp_X7_laundry_14 m v1 v2 v3 = some z) (hK : (qa_eq fin) z) : QG X Y 4 m 14 [(0, .ref (Y.2.2.1 36)), (1, .int v1), (2, .int v2), (3, .int v3)] [] :=
  tn_X7_laundry_14 hC hQ hK qa_F (m, v2, v3) hf
set_option maxRecDepth 100000 in
set_option maxHeartbeats 4000000 in
theorem c_X7_laundry (l : Launch) (Y : qaY) (m : qaM) (v1 : Int32) (q : Int32 × qaM) (hf : f_X7_laundry m v1 = some q) : qaMi l Y yX7_laundry cX7_laundry 4 (some .int) 9 [.ref (Y.2.2.1 36), .int v1] m q.2 q.1 := by
  refine qa_enti (by decide +kernel) (Nat.le_of_ble_eq_true rfl) fun X hC hQ => ?_
  have hK : qa_eq q q := rfl
  unfold f_X7_laundry at hf
  refine qi_iload_n hC 1 rfl rfl dX7_laundry_0 ?_
  obtain ⟨q1, hq1, hf⟩ := Option.bind_eq_some_iff.mp hf
  refine qi_callSi hC (as := [.int v1]) (c_X7_areWeeks _ _ _ _ _ hq1) kl_X7_266 kc_X7_areWeeks rfl rfl (by decide) (by decide) (Nat.le_of_ble_eq_true rfl) dX7_laundry_1 ?_
  refine qi_if_ne (tgt := 10) hC (by decide) dX7_laundry_4 (fun h => ?_) (fun h => ?_)
  · replace hf := qa_if_f h hf
    refine qi_iconst hC dX7_laundry_10 kn_iconst_m1 ?_
    refine qi_istore_n hC rfl (by decide) rfl dX7_laundry_11 ?_
    refine qi_iconst hC dX7_laundry_12 kn_iconst_0 ?_
    refine qi_istore_n hC rfl (by decide) rfl dX7_laundry_13 ?_
    refine qi_sub hC [2, 3, 1, 0] rfl ?_
    exact tl_X7_laundry_14 hC hQ hf hK
  · replace hf := qa_if_t h hf
    refine qi_bipush hC dX7_laundry_7 kn_bipush_m2 ?_
    obtain rfl := Option.some.inj hf
    exact qi_ireti hC hQ hK dX7_laundry_9
set_option maxRecDepth 100000 in
set_option maxHeartbeats 4000000 in
theorem c_X7_sheetWrong (l : Launch) (Y : qaY) (m : qaM) (v1 : Int32) (q : Int32) (hf : f_X7_sheetWrong m v1 = some q) : qaMi l Y yX7_sheetWrong cX7_sheetWrong 2 (some .int) 2 [.ref (Y.2.2.1 36), .int v1] m m q := by
  refine qa_enti (by decide +kernel) (Nat.le_of_ble_eq_true rfl) fun X hC hQ => ?_
  have hK : qa_eq q q := rfl
  unfold f_X7_sheetWrong at hf
  refine qi_iload_n hC 1 rfl rfl dX7_sheetWrong_0 ?_
  refine qi_iconst hC dX7_sheetWrong_1 kn_iconst_0 ?_
  refine qi_iconst hC dX7_sheetWrong_2 kn_iconst_3 ?_
  obtain ⟨q1, hq1, hf⟩ := Option.bind_eq_some_iff.mp hf
  refine qi_callSi hC (as := [.int v1, .int (0 : Int32), .int (3 : Int32)]) (c_X7_in _ _ _ _ _ _ _ hq1) kl_X7_90 kc_X7_in rfl rfl (by decide) (by decide) (Nat.le_of_ble_eq_true rfl) dX7_sheetWrong_3 ?_
  refine qi_if_ne (tgt := 12) hC (by decide) dX7_sheetWrong_6 (fun h => ?_) (fun h => ?_)
  · replace hf := qa_if_f h hf
    refine qi_aload_n hC 0 rfl rfl dX7_sheetWrong_12 ?_
    refine qi_getr hC kf_X7_43 sh_36 rfl dX7_sheetWrong_13 ?_
    refine qi_iload_n hC 1 rfl rfl dX7_sheetWrong_16 ?_
    obtain ⟨h2, hf⟩ := qa_ck_e hf
    refine qi_iald hC rfl sh_48 (qa_in_v h2) dX7_sheetWrong_17 ?_
    refine qi_iconst hC dX7_sheetWrong_18 kn_iconst_m1 ?_
    refine qi_icmp_ne (tgt := 25) hC (by decide) dX7_sheetWrong_19 (fun h => ?_) (fun h => ?_)
    · replace hf := qa_if_f h hf
      refine qi_aload_n hC 0 rfl rfl dX7_sheetWrong_25 ?_
      refine qi_getr hC kf_X7_46 sh_36 rfl dX7_sheetWrong_26 ?_
      refine qi_iload_n hC 1 rfl rfl dX7_sheetWrong_29 ?_
      obtain ⟨h3, hf⟩ := qa_ck_e hf
      refine qi_iald hC rfl sh_49 (qa_in_v h3) dX7_sheetWrong_30 ?_
      refine qi_aload_n hC 0 rfl rfl dX7_sheetWrong_31 ?_
      refine qi_geti hC kf_X7_87 sh_36 rfl dX7_sheetWrong_32 ?_
      refine qi_icmp_ne (tgt := 42) hC (by decide) dX7_sheetWrong_35 (fun h => ?_) (fun h => ?_)
      · replace hf := qa_if_f h hf
        refine qi_bipush hC dX7_sheetWrong_42 kn_bipush_m2 ?_
        obtain rfl := Option.some.inj hf
        exact qi_ireti hC hQ (congrArg (fun w => (w, m)) hK) dX7_sheetWrong_44
      · replace hf := qa_if_t h hf
        refine qi_iconst hC dX7_sheetWrong_38 kn_iconst_0 ?_
        refine qi_goto (tgt := 44) hC (by decide) dX7_sheetWrong_39 ?_
        obtain rfl := Option.some.inj hf
        exact qi_ireti hC hQ (congrArg (fun w => (w, m)) hK) dX7_sheetWrong_44
    · replace hf := qa_if_t h hf
      refine qi_bipush hC dX7_sheetWrong_22 kn_bipush_m11 ?_
      obtain rfl := Option.some.inj hf
      exact qi_ireti hC hQ (congrArg (fun w => (w, m)) hK) dX7_sheetWrong_24
  · replace hf := qa_if_t h hf
    refine qi_bipush hC dX7_sheetWrong_9 kn_bipush_m2 ?_
    obtain rfl := Option.some.inj hf
    exact qi_ireti hC hQ (congrArg (fun w => (w, m)) hK) dX7_sheetWrong_11
set_option maxRecDepth 100000 in
set_option maxHeartbeats 4000000 in
theorem c_X7_toldWrong (l : Launch) (Y : qaY) (m : qaM) (v1 : Int32) (v2 : Int32) (q : Int32) (hf : f_X7_toldWrong m v1 v2 = some q) : qaMi l Y yX7_toldWrong cX7_toldWrong 4 (some .int) 3 [.ref (Y.2.2.1 36), .int v1, .int v2] m m q := by
  refine qa_enti (by decide +kernel) (Nat.le_of_ble_eq_true rfl) fun X hC hQ => ?_
  have hK : qa_eq q q := rfl
  unfold f_X7_toldWrong at hf
  refine qi_aload_n hC 0 rfl rfl dX7_toldWrong_0 ?_
  refine qi_iload_n hC 1 rfl rfl dX7_toldWrong_1 ?_
  obtain ⟨q1, hq1, hf⟩ := Option.bind_eq_some_iff.mp hf
  refine qi_callVi hC (as := [.int v1]) (c_X7_sheetWrong _ _ _ _ _ hq1) kl_X7_289 sh_36 kc_X7_sheetWrong rfl rfl (by decide) (by decide) (Nat.le_of_ble_eq_true rfl) dX7_toldWrong_2 ?_
  refine qi_istore_n hC rfl (by decide) rfl dX7_toldWrong_5 ?_
  refine qi_iload_n hC 0 rfl rfl dX7_toldWrong_6 ?_
  refine qi_if_eq (tgt := 14) hC (by decide) dX7_toldWrong_7 (fun h => ?_) (fun h => ?_)
  · replace hf := qa_if_t h hf
    refine qi_iload_n hC 3 rfl rfl dX7_toldWrong_14 ?_
    obtain ⟨q2, hq2, hf⟩ := Option.bind_eq_some_iff.mp hf
    refine qi_callSi hC (as := [.int v2]) (c_X7_areWeeks _ _ _ _ _ hq2) kl_X7_266 kc_X7_areWeeks rfl rfl (by decide) (by decide) (Nat.le_of_ble_eq_true rfl) dX7_toldWrong_15 ?_
    refine qi_if_eq (tgt := 25) hC (by decide) dX7_toldWrong_18 (fun h => ?_) (fun h => ?_)
    · replace hf := qa_if_t h hf
      refine qi_bipush hC dX7_toldWrong_25 kn_bipush_m7 ?_
      obtain rfl := Option.some.inj hf
      exact qi_ireti hC hQ (congrArg (fun w => (w, m)) hK) dX7_toldWrong_27
    · replace hf := qa_if_f h hf
      refine qi_iconst hC dX7_toldWrong_21 kn_iconst_0 ?_
      refine qi_goto (tgt := 27) hC (by decide) dX7_toldWrong_22 ?_
      obtain rfl := Option.some.inj hf
      exact qi_ireti hC hQ (congrArg (fun w => (w, m)) hK) dX7_toldWrong_27
  · replace hf := qa_if_f h hf
    refine qi_iload_n hC 0 rfl rfl dX7_toldWrong_10 ?_
    refine qi_goto (tgt := 27) hC (by decide) dX7_toldWrong_11 ?_
    obtain rfl := Option.some.inj hf
    exact qi_ireti hC hQ (congrArg (fun w => (w, m)) hK) dX7_toldWrong_27
set_option maxRecDepth 100000 in
set_option maxHeartbeats 4000000 in
theorem t_X7_unlike_7 {X : qaX} {l : Launch} {Y : qaY} {fin : Int32 × qaM} (hC : QC X l Y cX7_unlike RX7 4 8) (hQ : QRi X Y (some .int) fin.2 fin.1) {m : qaM} {v1 : Int32} {v3 : Int32} {z : ((Int32) ⊕ (Int32 × qaM))} (hf : b_X7_unlike_7 m v1 v3 = some z) (hK : (qa_K (fun s => QG X Y 4 m 7 [(0, .ref (Y.2.2.1 36)), (1, .int v1), (3, .int s)] []) (qa_eq fin)) z) : QG X Y 4 m 7 [(0, .ref (Y.2.2.1 36)), (1, .int v1), (3, .int v3)] [] := by
  unfold b_X7_unlike_7 at hf
  refine qi_iload_n hC 2 rfl rfl dX7_unlike_7 ?_
  refine qi_aload_n hC 0 rfl rfl dX7_unlike_8 ?_
  refine qi_geti hC kf_X7_87 sh_36 rfl dX7_unlike_9 ?_
  refine qi_icmp_ge (tgt := 46) hC (by decide) dX7_unlike_12 (fun h => ?_) (fun h => ?_)
  · replace hf := qa_if_t h hf
    refine qi_iconst hC dX7_unlike_46 kn_iconst_m1 ?_
    obtain ⟨z, rfl, hg⟩ := qa_inr_e hf; have hf := hg
    obtain rfl := Option.some.inj hf
    exact qi_ireti hC hQ hK dX7_unlike_47
  · replace hf := qa_if_f h hf
    refine qi_aload_n hC 0 rfl rfl dX7_unlike_15 ?_
    refine qi_getr hC kf_X7_49 sh_36 rfl dX7_unlike_16 ?_
    refine qi_bipush hC dX7_unlike_19 kn_bipush_40 ?_
    refine qi_iload_n hC 1 rfl rfl dX7_unlike_21 ?_
    refine qi_imul hC dX7_unlike_22 ?_
    refine qi_iload_n hC 2 rfl rfl dX7_unlike_23 ?_
    refine qi_iadd hC dX7_unlike_24 ?_
    obtain ⟨h2, hf⟩ := qa_ck_e hf
    refine qi_iald hC rfl sh_50 (qa_in_v h2) dX7_unlike_25 ?_
    refine qi_aload_n hC 0 rfl rfl dX7_unlike_26 ?_
    refine qi_getr hC kf_X7_76 sh_36 rfl dX7_unlike_27 ?_
    refine qi_bipush hC dX7_unlike_30 kn_bipush_6 ?_
    refine qi_iload_n hC 2 rfl rfl dX7_unlike_32 ?_
    refine qi_imul hC dX7_unlike_33 ?_
    obtain ⟨h3, hf⟩ := qa_ck_e hf
    refine qi_iald hC rfl sh_59 (qa_in_v h3) dX7_unlike_34 ?_
    refine qi_icmp_eq (tgt := 40) hC (by decide) dX7_unlike_35 (fun h => ?_) (fun h => ?_)
    · replace hf := qa_if_t h hf
      obtain ⟨x4, ex4, hf⟩ := qa_lt_e hf
      refine qi_iinc hC (n := 1) (v := x4) 2 rfl ((congrArg (fun q => v3 + q) kn_iconst_1).trans ex4.symm) (by decide) rfl dX7_unlike_40 ?_
      refine qi_goto (tgt := 7) hC (by decide) dX7_unlike_43 ?_
      obtain rfl := Option.some.inj hf
      refine qi_sub hC [1, 2, 0] rfl ?_
      exact hK
    · replace hf := qa_if_f h hf
      refine qi_iload_n hC 2 rfl rfl dX7_unlike_38 ?_
      obtain ⟨z, rfl, hg⟩ := qa_inr_e hf; have hf := hg
      obtain rfl := Option.some.inj hf
      exact qi_ireti hC hQ hK dX7_unlike_39
set_option maxRecDepth 100000 in
set_option maxHeartbeats 4000000 in
theorem tn_X7_unlike_7 {X : qaX} {l : Launch} {Y : qaY} {fin : Int32 × qaM} (hC : QC X l Y cX7_unlike RX7 4 8) (hQ : QRi X Y (some .int) fin.2 fin.1) {m : qaM} {v1 : Int32} {z : (Int32 × qaM)} (hK : (qa_eq fin) z) : ∀ (n : Nat) (s : Int32), qa_lp (fun s => b_X7_unlike_7 m v1 s) n s = some z → QG X Y 4 m 7 [(0, .ref (Y.2.2.1 36)), (1, .int v1), (3, .int s)] [] := by
  intro n
  induction n with
  | zero => intro s hf; cases hf
  | succ n ih =>
    intro s hf
    obtain ⟨y, hy, hf⟩ := qa_lp_e hf
    refine t_X7_unlike_7 hC hQ hy ?_
    rcases hf with ⟨s', rfl, hf⟩ | rfl
    · exact ih s' hf
    · exact hK
set_option maxRecDepth 100000 in
set_option maxHeartbeats 4000000 in
theorem tl_X7_unlike_7 {X : qaX} {l : Launch} {Y : qaY} {fin : Int32 × qaM} (hC : QC X l Y cX7_unlike RX7 4 8) (hQ : QRi X Y (some .int) fin.2 fin.1) {m : qaM} {v1 : Int32} {v3 : Int32} {z : (Int32 × qaM)} (hf : lp_X7_unlike_7 m v1 v3 = some z) (hK : (qa_eq fin) z) : QG X Y 4 m 7 [(0, .ref (Y.2.2.1 36)), (1, .int v1), (3, .int v3)] [] :=
  tn_X7_unlike_7 hC hQ hK qa_F v3 hf
set_option maxRecDepth 100000 in
set_option maxHeartbeats 4000000 in
theorem c_X7_unlike (l : Launch) (Y : qaY) (m : qaM) (v1 : Int32) (v2 : Int32) (q : Int32 × qaM) (hf : f_X7_unlike m v1 v2 = some q) : qaMi l Y yX7_unlike cX7_unlike 4 (some .int) 8 [.ref (Y.2.2.1 36), .int v1, .int v2] m q.2 q.1 := by
  refine qa_enti (by decide +kernel) (Nat.le_of_ble_eq_true rfl) fun X hC hQ => ?_
  have hK : qa_eq q q := rfl
  unfold f_X7_unlike at hf
  refine qi_aload_n hC 0 rfl rfl dX7_unlike_0 ?_
  refine qi_iload_n hC 2 rfl rfl dX7_unlike_1 ?_
  obtain ⟨q1, hq1, hf⟩ := Option.bind_eq_some_iff.mp hf
  refine qi_callVv hC (as := [.int v2]) (c_X7_goes _ _ _ _ _ hq1) kl_X7_269 sh_36 kc_X7_goes rfl rfl (by decide) (by decide) (Nat.le_of_ble_eq_true rfl) dX7_unlike_2 ?_
  refine qi_iconst hC dX7_unlike_5 kn_iconst_0 ?_
  refine qi_istore_n hC rfl (by decide) rfl dX7_unlike_6 ?_
  refine qi_sub hC [1, 2, 0] rfl ?_
  exact tl_X7_unlike_7 hC hQ hf hK
set_option maxRecDepth 100000 in
set_option maxHeartbeats 4000000 in
theorem c_X7_judge (l : Launch) (Y : qaY) (m : qaM) (v1 : Int32) (v2 : Int32) (q : Int32 × qaM) (hf : f_X7_judge m v1 v2 = some q) : qaMi l Y yX7_judge cX7_judge 4 (some .int) 9 [.ref (Y.2.2.1 36), .int v1, .int v2] m q.2 q.1 := by
  refine qa_enti (by decide +kernel) (Nat.le_of_ble_eq_true rfl) fun X hC hQ => ?_
  have hK : qa_eq q q := rfl
  unfold f_X7_judge at hf
  refine qi_aload_n hC 0 rfl rfl dX7_judge_0 ?_
  refine qi_iload_n hC 1 rfl rfl dX7_judge_1 ?_
  refine qi_iload_n hC 2 rfl rfl dX7_judge_2 ?_
  obtain ⟨q1, hq1, hf⟩ := Option.bind_eq_some_iff.mp hf
  refine qi_callVi hC (as := [.int v1, .int v2]) (c_X7_toldWrong _ _ _ _ _ _ hq1) kl_X7_292 sh_36 kc_X7_toldWrong rfl rfl (by decide) (by decide) (Nat.le_of_ble_eq_true rfl) dX7_judge_3 ?_
  refine qi_istore_n hC rfl (by decide) rfl dX7_judge_6 ?_
  refine qi_iload_n hC 0 rfl rfl dX7_judge_7 ?_
  refine qi_if_ne (tgt := 20) hC (by decide) dX7_judge_8 (fun h => ?_) (fun h => ?_)
  · replace hf := qa_if_f h hf
    refine qi_iload_n hC 0 rfl rfl dX7_judge_20 ?_
    obtain rfl := Option.some.inj hf
    exact qi_ireti hC hQ hK dX7_judge_21
  · replace hf := qa_if_t h hf
    refine qi_aload_n hC 1 rfl rfl dX7_judge_11 ?_
    refine qi_iload_n hC 2 rfl rfl dX7_judge_12 ?_
    refine qi_iload_n hC 3 rfl rfl dX7_judge_13 ?_
    obtain ⟨q2, hq2, hf⟩ := Option.bind_eq_some_iff.mp hf
    refine qi_callVi hC (as := [.int v1, .int v2]) (c_X7_unlike _ _ _ _ _ _ hq2) kl_X7_295 sh_36 kc_X7_unlike rfl rfl (by decide) (by decide) (Nat.le_of_ble_eq_true rfl) dX7_judge_14 ?_
    refine qi_goto (tgt := 21) hC (by decide) dX7_judge_17 ?_
    obtain rfl := Option.some.inj hf
    exact qi_ireti hC hQ hK dX7_judge_21
set_option maxRecDepth 100000 in
set_option maxHeartbeats 4000000 in
theorem t_X7_rulesOf_91 {X : qaX} {l : Launch} {Y : qaY} {fin : Int32 × qaM} (hC : QC X l Y cX7_rulesOf RX7 8 9) (hQ : QRi X Y (some .int) fin.2 fin.1) {m : qaM} {v4 : Int32} {v5 : Int32} {v6 : Int32} {z : (Int32 × qaM)} (hf : b_X7_rulesOf_91 m v4 v5 v6 = some z) (hK : (qa_eq fin) z) : QG X Y 8 m 91 [(0, .ref (Y.2.2.1 36)), (4, .int v4), (5, .int v5), (6, .int v6)] [] := by
  unfold b_X7_rulesOf_91 at hf
  refine qi_aload_n hC 0 rfl rfl dX7_rulesOf_91 ?_
  refine qi_getr hC kf_X7_22 sh_36 rfl dX7_rulesOf_92 ?_
  refine qi_iconst hC dX7_rulesOf_95 kn_iconst_2 ?_
  refine qi_iload hC 1 rfl dX7_rulesOf_96 ?_
  obtain ⟨m4, em4, hf⟩ := qa_lt_e hf
  refine qi_iast hC tn_2 em4 sh_41 vi_2_4 dX7_rulesOf_98 ?_
  refine qi_aload_n hC 0 rfl rfl dX7_rulesOf_99 ?_
  refine qi_getr hC kf_X7_22 sh_36 rfl dX7_rulesOf_100 ?_
  refine qi_iconst hC dX7_rulesOf_103 kn_iconst_3 ?_
  refine qi_iload hC 2 rfl dX7_rulesOf_104 ?_
  obtain ⟨m5, em5, hf⟩ := qa_lt_e hf
  refine qi_iast hC tn_3 em5 sh_41 vi_3_4 dX7_rulesOf_106 ?_
  refine qi_iload hC 3 rfl dX7_rulesOf_107 ?_
  obtain rfl := Option.some.inj hf
  exact qi_ireti hC hQ hK dX7_rulesOf_109
set_option maxRecDepth 100000 in
set_option maxHeartbeats 4000000 in
theorem t_X7_rulesOf_82 {X : qaX} {l : Launch} {Y : qaY} {fin : Int32 × qaM} (hC : QC X l Y cX7_rulesOf RX7 8 9) (hQ : QRi X Y (some .int) fin.2 fin.1) {m : qaM} {v1 : Int32} {v2 : Int32} {v4 : Int32} {v5 : Int32} {v7 : Int32} {s0 : Int32} {s1 : Int32} {z : ((qaM × Int32 × Int32) ⊕ (Int32 × qaM))} (hf : b_X7_rulesOf_82 m v1 v2 v4 v5 v7 s0 s1 = some z) (hK : (qa_K (fun s => QG X Y 8 s.1 35 [(0, .ref (Y.2.2.1 36)), (1, .int v1), (2, .int v2), (4, .int v4), (5, .int v5), (6, .int s.2.1), (7, .int s.2.2)] []) (qa_eq fin)) z) : QG X Y 8 m 82 [(0, .ref (Y.2.2.1 36)), (1, .int v1), (2, .int v2), (4, .int v4), (5, .int v5), (7, .int v7)] [.int s1, .int s0] := by
  unfold b_X7_rulesOf_82 at hf
  refine qi_ior hC dX7_rulesOf_82 ?_
  obtain ⟨x9, ex9, hf⟩ := qa_lt_e hf
  refine qi_nmi hC ex9 ?_
  refine qi_istore hC (by decide) rfl dX7_rulesOf_83 ?_
  obtain ⟨x10, ex10, hf⟩ := qa_lt_e hf
  refine qi_iinc hC (n := 1) (v := x10) 6 rfl ((congrArg (fun q => v7 + q) kn_iconst_1).trans ex10.symm) (by decide) rfl dX7_rulesOf_85 ?_
  refine qi_goto (tgt := 35) hC (by decide) dX7_rulesOf_88 ?_
  obtain rfl := Option.some.inj hf
  refine qi_sub hC [2, 3, 4, 5, 6, 1, 0] rfl ?_
  exact hK
set_option maxRecDepth 100000 in
set_option maxHeartbeats 4000000 in
theorem t_X7_rulesOf_35 {X : qaX} {l : Launch} {Y : qaY} {fin : Int32 × qaM} (hC : QC X l Y cX7_rulesOf RX7 8 9) (hQ : QRi X Y (some .int) fin.2 fin.1) {m : qaM} {v1 : Int32} {v2 : Int32} {v4 : Int32} {v5 : Int32} {v6 : Int32} {v7 : Int32} {z : ((qaM × Int32 × Int32) ⊕ (Int32 × qaM))} (hf : b_X7_rulesOf_35 m v1 v2 v4 v5 v6 v7 = some z) (hK : (qa_K (fun s => QG X Y 8 s.1 35 [(0, .ref (Y.2.2.1 36)), (1, .int v1), (2, .int v2), (4, .int v4), (5, .int v5), (6, .int s.2.1), (7, .int s.2.2)] []) (qa_eq fin)) z) : QG X Y 8 m 35 [(0, .ref (Y.2.2.1 36)), (1, .int v1), (2, .int v2), (4, .int v4), (5, .int v5), (6, .int v6), (7, .int v7)] [] := by
  unfold b_X7_rulesOf_35 at hf
  refine qi_iload hC 6 rfl dX7_rulesOf_35 ?_
  refine qi_bipush hC dX7_rulesOf_37 kn_bipush_12 ?_
  refine qi_icmp_ge (tgt := 91) hC (by decide) dX7_rulesOf_39 (fun h => ?_) (fun h => ?_)
  · replace hf := qa_if_t h hf
    obtain ⟨z, rfl, hg⟩ := qa_inr_e hf; have hf := hg
    refine qi_sub hC [0, 3, 4, 5] rfl ?_
    exact t_X7_rulesOf_91 hC hQ hf hK
  · replace hf := qa_if_f h hf
    refine qi_aload_n hC 0 rfl rfl dX7_rulesOf_42 ?_
    refine qi_getr hC kf_X7_22 sh_36 rfl dX7_rulesOf_43 ?_
    refine qi_iconst hC dX7_rulesOf_46 kn_iconst_2 ?_
    refine qi_iload hC 6 rfl dX7_rulesOf_47 ?_
    refine qi_iconst hC dX7_rulesOf_49 kn_iconst_3 ?_
    refine qi_idiv hC (by decide) dX7_rulesOf_50 ?_
    obtain ⟨m6, em6, hf⟩ := qa_lt_e hf
    refine qi_iast hC tn_2 em6 sh_41 vi_2_4 dX7_rulesOf_51 ?_
    refine qi_aload_n hC 0 rfl rfl dX7_rulesOf_52 ?_
    refine qi_getr hC kf_X7_22 sh_36 rfl dX7_rulesOf_53 ?_
    refine qi_iconst hC dX7_rulesOf_56 kn_iconst_3 ?_
    refine qi_iload hC 6 rfl dX7_rulesOf_57 ?_
    refine qi_iconst hC dX7_rulesOf_59 kn_iconst_3 ?_
    refine qi_irem hC (by decide) dX7_rulesOf_60 ?_
    obtain ⟨m7, em7, hf⟩ := qa_lt_e hf
    refine qi_iast hC tn_3 em7 sh_41 vi_3_4 dX7_rulesOf_61 ?_
    refine qi_iload hC 5 rfl dX7_rulesOf_62 ?_
    refine qi_aload_n hC 0 rfl rfl dX7_rulesOf_64 ?_
    refine qi_iload_n hC 1 rfl rfl dX7_rulesOf_65 ?_
    refine qi_iload_n hC 2 rfl rfl dX7_rulesOf_66 ?_
    obtain ⟨q8, hq8, hf⟩ := Option.bind_eq_some_iff.mp hf
    refine qi_callVi hC (as := [.int v1, .int v2]) (c_X7_unlike _ _ _ _ _ _ hq8) kl_X7_295 sh_36 kc_X7_unlike rfl rfl (by decide) (by decide) (Nat.le_of_ble_eq_true rfl) dX7_rulesOf_67 ?_
    refine qi_iconst hC dX7_rulesOf_70 kn_iconst_m1 ?_
    refine qi_icmp_ne (tgt := 81) hC (by decide) dX7_rulesOf_71 (fun h => ?_) (fun h => ?_)
    · replace hf := qa_if_f h hf
      refine qi_iconst hC dX7_rulesOf_81 kn_iconst_0 ?_
      refine qi_sub hC [0, 1, 2, 3, 4, 6] rfl ?_
      exact t_X7_rulesOf_82 hC hQ hf hK
    · replace hf := qa_if_t h hf
      refine qi_iconst hC dX7_rulesOf_74 kn_iconst_1 ?_
      refine qi_iload hC 6 rfl dX7_rulesOf_75 ?_
      refine qi_ishl hC dX7_rulesOf_77 ?_
      refine qi_goto (tgt := 82) hC (by decide) dX7_rulesOf_78 ?_
      refine qi_sub hC [0, 1, 2, 3, 4, 6] rfl ?_
      exact t_X7_rulesOf_82 hC hQ hf hK
set_option maxRecDepth 100000 in
set_option maxHeartbeats 4000000 in
theorem tn_X7_rulesOf_35 {X : qaX} {l : Launch} {Y : qaY} {fin : Int32 × qaM} (hC : QC X l Y cX7_rulesOf RX7 8 9) (hQ : QRi X Y (some .int) fin.2 fin.1) {v1 : Int32} {v2 : Int32} {v4 : Int32} {v5 : Int32} {z : (Int32 × qaM)} (hK : (qa_eq fin) z) : ∀ (n : Nat) (s : qaM × Int32 × Int32), qa_lp (fun s => b_X7_rulesOf_35 s.1 v1 v2 v4 v5 s.2.1 s.2.2) n s = some z → QG X Y 8 s.1 35 [(0, .ref (Y.2.2.1 36)), (1, .int v1), (2, .int v2), (4, .int v4), (5, .int v5), (6, .int s.2.1), (7, .int s.2.2)] [] := by
  intro n
  induction n with
  | zero => intro s hf; cases hf
  | succ n ih =>
    intro s hf
    obtain ⟨y, hy, hf⟩ := qa_lp_e hf
    refine t_X7_rulesOf_35 hC hQ hy ?_
    rcases hf with ⟨s', rfl, hf⟩ | rfl
    · exact ih s' hf
    · exact hK
set_option maxRecDepth 100000 in
set_option maxHeartbeats 4000000 in
theorem tl_X7_rulesOf_35 {X : qaX} {l : Launch} {Y : qaY} {fin : Int32 × qaM} (hC : QC X l Y cX7_rulesOf RX7 8 9) (hQ : QRi X Y (some .int) fin.2 fin.1) {m : qaM} {v1 : Int32} {v2 : Int32} {v4 : Int32} {v5 : Int32} {v6 : Int32} {v7 : Int32} {z : (Int32 × qaM)} (hf : lp_X7_rulesOf_35 m v1 v2 v4 v5 v6 v7 = some z) (hK : (qa_eq fin) z) : QG X Y 8 m 35 [(0, .ref (Y.2.2.1 36)), (1, .int v1), (2, .int v2), (4, .int v4), (5, .int v5), (6, .int v6), (7, .int v7)] [] :=
  tn_X7_rulesOf_35 hC hQ hK qa_F (m, v6, v7) hf
set_option maxRecDepth 100000 in
set_option maxHeartbeats 4000000 in
theorem c_X7_rulesOf (l : Launch) (Y : qaY) (m : qaM) (v1 : Int32) (v2 : Int32) (q : Int32 × qaM) (hf : f_X7_rulesOf m v1 v2 = some q) : qaMi l Y yX7_rulesOf cX7_rulesOf 8 (some .int) 9 [.ref (Y.2.2.1 36), .int v1, .int v2] m q.2 q.1 := by
  refine qa_enti (by decide +kernel) (Nat.le_of_ble_eq_true rfl) fun X hC hQ => ?_
  have hK : qa_eq q q := rfl
  unfold f_X7_rulesOf at hf
  refine qi_aload_n hC 0 rfl rfl dX7_rulesOf_0 ?_
  refine qi_iload_n hC 1 rfl rfl dX7_rulesOf_1 ?_
  refine qi_iload_n hC 2 rfl rfl dX7_rulesOf_2 ?_
  obtain ⟨q1, hq1, hf⟩ := Option.bind_eq_some_iff.mp hf
  refine qi_callVi hC (as := [.int v1, .int v2]) (c_X7_toldWrong _ _ _ _ _ _ hq1) kl_X7_292 sh_36 kc_X7_toldWrong rfl rfl (by decide) (by decide) (Nat.le_of_ble_eq_true rfl) dX7_rulesOf_3 ?_
  refine qi_istore_n hC rfl (by decide) rfl dX7_rulesOf_6 ?_
  refine qi_iload_n hC 0 rfl rfl dX7_rulesOf_7 ?_
  refine qi_if_eq (tgt := 13) hC (by decide) dX7_rulesOf_8 (fun h => ?_) (fun h => ?_)
  · replace hf := qa_if_t h hf
    refine qi_aload_n hC 1 rfl rfl dX7_rulesOf_13 ?_
    refine qi_getr hC kf_X7_22 sh_36 rfl dX7_rulesOf_14 ?_
    refine qi_iconst hC dX7_rulesOf_17 kn_iconst_2 ?_
    refine qi_iald hC tn_2 sh_41 vi_2_4 dX7_rulesOf_18 ?_
    obtain ⟨x2, ex2, hf⟩ := qa_lt_e hf
    refine qi_nmi hC ex2 ?_
    refine qi_istore hC (by decide) rfl dX7_rulesOf_19 ?_
    refine qi_aload_n hC 2 rfl rfl dX7_rulesOf_21 ?_
    refine qi_getr hC kf_X7_22 sh_36 rfl dX7_rulesOf_22 ?_
    refine qi_iconst hC dX7_rulesOf_25 kn_iconst_3 ?_
    refine qi_iald hC tn_3 sh_41 vi_3_4 dX7_rulesOf_26 ?_
    obtain ⟨x3, ex3, hf⟩ := qa_lt_e hf
    refine qi_nmi hC ex3 ?_
    refine qi_istore hC (by decide) rfl dX7_rulesOf_27 ?_
    refine qi_iconst hC dX7_rulesOf_29 kn_iconst_0 ?_
    refine qi_istore hC (by decide) rfl dX7_rulesOf_30 ?_
    refine qi_iconst hC dX7_rulesOf_32 kn_iconst_0 ?_
    refine qi_istore hC (by decide) rfl dX7_rulesOf_33 ?_
    refine qi_sub hC [5, 6, 7, 3, 2, 1, 0] rfl ?_
    exact tl_X7_rulesOf_35 hC hQ hf hK
  · replace hf := qa_if_f h hf
    refine qi_iload_n hC 0 rfl rfl dX7_rulesOf_11 ?_
    obtain rfl := Option.some.inj hf
    exact qi_ireti hC hQ hK dX7_rulesOf_12
set_option maxRecDepth 100000 in
set_option maxHeartbeats 4000000 in
theorem t_X7_kinds_170 {X : qaX} {l : Launch} {Y : qaY} {fin : Int32 × qaM} (hC : QC X l Y cX7_kinds RX7 11 9) (hQ : QRi X Y (some .int) fin.2 fin.1) {m : qaM} {v5 : Int32} {v7 : Int32} {v8 : Int32} {v9 : Int32} {z : (Int32 × qaM)} (hf : b_X7_kinds_170 m v5 v7 v8 v9 = some z) (hK : (qa_eq fin) z) : QG X Y 11 m 170 [(0, .ref (Y.2.2.1 36)), (5, .int v5), (7, .int v7), (8, .int v8), (9, .int v9)] [] := by
  unfold b_X7_kinds_170 at hf
  refine qi_aload_n hC 0 rfl rfl dX7_kinds_170 ?_
  refine qi_getr hC kf_X7_7 sh_36 rfl dX7_kinds_171 ?_
  refine qi_iload hC 1 rfl dX7_kinds_174 ?_
  refine qi_iload hC 2 rfl dX7_kinds_176 ?_
  obtain ⟨h9, hf⟩ := qa_ck_e hf
  obtain ⟨m10, em10, hf⟩ := qa_lt_e hf
  refine qi_iast hC rfl em10 sh_37 (qa_in_v h9) dX7_kinds_178 ?_
  refine qi_aload_n hC 0 rfl rfl dX7_kinds_179 ?_
  refine qi_getr hC kf_X7_13 sh_36 rfl dX7_kinds_180 ?_
  refine qi_iload hC 1 rfl dX7_kinds_183 ?_
  refine qi_iload hC 3 rfl dX7_kinds_185 ?_
  obtain ⟨h11, hf⟩ := qa_ck_e hf
  obtain ⟨m12, em12, hf⟩ := qa_lt_e hf
  refine qi_iast hC rfl em12 sh_38 (qa_in_v h11) dX7_kinds_187 ?_
  refine qi_iload hC 4 rfl dX7_kinds_188 ?_
  obtain rfl := Option.some.inj hf
  exact qi_ireti hC hQ hK dX7_kinds_190
set_option maxRecDepth 100000 in
set_option maxHeartbeats 4000000 in
theorem t_X7_kinds_161 {X : qaX} {l : Launch} {Y : qaY} {fin : Int32 × qaM} (hC : QC X l Y cX7_kinds RX7 11 9) (hQ : QRi X Y (some .int) fin.2 fin.1) {m : qaM} {v1 : Int32} {v2 : Int32} {v5 : Int32} {v6 : Int32} {v7 : Int32} {v8 : Int32} {v10 : Int32} {s0 : Int32} {s1 : Int32} {z : ((qaM × Int32 × Int32) ⊕ (Int32 × qaM))} (hf : b_X7_kinds_161 m v1 v2 v5 v6 v7 v8 v10 s0 s1 = some z) (hK : (qa_K (fun s => QG X Y 11 s.1 85 [(0, .ref (Y.2.2.1 36)), (1, .int v1), (2, .int v2), (5, .int v5), (6, .int v6), (7, .int v7), (8, .int v8), (9, .int s.2.1), (10, .int s.2.2)] []) (qa_eq fin)) z) : QG X Y 11 m 161 [(0, .ref (Y.2.2.1 36)), (1, .int v1), (2, .int v2), (5, .int v5), (6, .int v6), (7, .int v7), (8, .int v8), (10, .int v10)] [.int s1, .int s0] := by
  unfold b_X7_kinds_161 at hf
  refine qi_ior hC dX7_kinds_161 ?_
  obtain ⟨x18, ex18, hf⟩ := qa_lt_e hf
  refine qi_nmi hC ex18 ?_
  refine qi_istore hC (by decide) rfl dX7_kinds_162 ?_
  obtain ⟨x19, ex19, hf⟩ := qa_lt_e hf
  refine qi_iinc hC (n := 1) (v := x19) 8 rfl ((congrArg (fun q => v10 + q) kn_iconst_1).trans ex19.symm) (by decide) rfl dX7_kinds_164 ?_
  refine qi_goto (tgt := 85) hC (by decide) dX7_kinds_167 ?_
  obtain rfl := Option.some.inj hf
  refine qi_sub hC [2, 3, 4, 5, 6, 7, 8, 1, 0] rfl ?_
  exact hK
set_option maxRecDepth 100000 in
set_option maxHeartbeats 4000000 in
theorem t_X7_kinds_140 {X : qaX} {l : Launch} {Y : qaY} {fin : Int32 × qaM} (hC : QC X l Y cX7_kinds RX7 11 9) (hQ : QRi X Y (some .int) fin.2 fin.1) {m : qaM} {v1 : Int32} {v2 : Int32} {v5 : Int32} {v6 : Int32} {v7 : Int32} {v8 : Int32} {v9 : Int32} {v10 : Int32} {s1 : Int32} {s2 : Int32} {z : ((qaM × Int32 × Int32) ⊕ (Int32 × qaM))} (hf : b_X7_kinds_140 m v1 v2 v5 v6 v7 v8 v9 v10 s1 s2 = some z) (hK : (qa_K (fun s => QG X Y 11 s.1 85 [(0, .ref (Y.2.2.1 36)), (1, .int v1), (2, .int v2), (5, .int v5), (6, .int v6), (7, .int v7), (8, .int v8), (9, .int s.2.1), (10, .int s.2.2)] []) (qa_eq fin)) z) : QG X Y 11 m 140 [(0, .ref (Y.2.2.1 36)), (1, .int v1), (2, .int v2), (5, .int v5), (6, .int v6), (7, .int v7), (8, .int v8), (9, .int v9), (10, .int v10)] [.int s2, .int s1, .ref (Y.2.2.1 38)] := by
  unfold b_X7_kinds_140 at hf
  obtain ⟨h15, hf⟩ := qa_ck_e hf
  obtain ⟨m16, em16, hf⟩ := qa_lt_e hf
  refine qi_iast hC rfl em16 sh_38 (qa_in_v h15) dX7_kinds_140 ?_
  refine qi_iload hC 7 rfl dX7_kinds_141 ?_
  refine qi_aload_n hC 0 rfl rfl dX7_kinds_143 ?_
  refine qi_iload_n hC 1 rfl rfl dX7_kinds_144 ?_
  refine qi_iload_n hC 2 rfl rfl dX7_kinds_145 ?_
  obtain ⟨q17, hq17, hf⟩ := Option.bind_eq_some_iff.mp hf
  refine qi_callVi hC (as := [.int v1, .int v2]) (c_X7_unlike _ _ _ _ _ _ hq17) kl_X7_295 sh_36 kc_X7_unlike rfl rfl (by decide) (by decide) (Nat.le_of_ble_eq_true rfl) dX7_kinds_146 ?_
  refine qi_iconst hC dX7_kinds_149 kn_iconst_m1 ?_
  refine qi_icmp_ne (tgt := 160) hC (by decide) dX7_kinds_150 (fun h => ?_) (fun h => ?_)
  · replace hf := qa_if_f h hf
    refine qi_iconst hC dX7_kinds_160 kn_iconst_0 ?_
    refine qi_sub hC [0, 1, 2, 3, 4, 5, 6, 8] rfl ?_
    exact t_X7_kinds_161 hC hQ hf hK
  · replace hf := qa_if_t h hf
    refine qi_iconst hC dX7_kinds_153 kn_iconst_1 ?_
    refine qi_iload hC 8 rfl dX7_kinds_154 ?_
    refine qi_ishl hC dX7_kinds_156 ?_
    refine qi_goto (tgt := 161) hC (by decide) dX7_kinds_157 ?_
    refine qi_sub hC [0, 1, 2, 3, 4, 5, 6, 8] rfl ?_
    exact t_X7_kinds_161 hC hQ hf hK
set_option maxRecDepth 100000 in
set_option maxHeartbeats 4000000 in
theorem t_X7_kinds_120 {X : qaX} {l : Launch} {Y : qaY} {fin : Int32 × qaM} (hC : QC X l Y cX7_kinds RX7 11 9) (hQ : QRi X Y (some .int) fin.2 fin.1) {m : qaM} {v1 : Int32} {v2 : Int32} {v5 : Int32} {v6 : Int32} {v7 : Int32} {v8 : Int32} {v9 : Int32} {v10 : Int32} {s1 : Int32} {s2 : Int32} {z : ((qaM × Int32 × Int32) ⊕ (Int32 × qaM))} (hf : b_X7_kinds_120 m v1 v2 v5 v6 v7 v8 v9 v10 s1 s2 = some z) (hK : (qa_K (fun s => QG X Y 11 s.1 85 [(0, .ref (Y.2.2.1 36)), (1, .int v1), (2, .int v2), (5, .int v5), (6, .int v6), (7, .int v7), (8, .int v8), (9, .int s.2.1), (10, .int s.2.2)] []) (qa_eq fin)) z) : QG X Y 11 m 120 [(0, .ref (Y.2.2.1 36)), (1, .int v1), (2, .int v2), (5, .int v5), (6, .int v6), (7, .int v7), (8, .int v8), (9, .int v9), (10, .int v10)] [.int s2, .int s1, .ref (Y.2.2.1 37)] := by
  unfold b_X7_kinds_120 at hf
  obtain ⟨h13, hf⟩ := qa_ck_e hf
  obtain ⟨m14, em14, hf⟩ := qa_lt_e hf
  refine qi_iast hC rfl em14 sh_37 (qa_in_v h13) dX7_kinds_120 ?_
  refine qi_aload_n hC 0 rfl rfl dX7_kinds_121 ?_
  refine qi_getr hC kf_X7_13 sh_36 rfl dX7_kinds_122 ?_
  refine qi_iload hC 3 rfl dX7_kinds_125 ?_
  refine qi_iload hC 4 rfl dX7_kinds_127 ?_
  refine qi_iconst hC dX7_kinds_129 kn_iconst_1 ?_
  refine qi_icmp_ne (tgt := 138) hC (by decide) dX7_kinds_130 (fun h => ?_) (fun h => ?_)
  · replace hf := qa_if_f h hf
    refine qi_iload hC 6 rfl dX7_kinds_138 ?_
    exact t_X7_kinds_140 hC hQ hf hK
  · replace hf := qa_if_t h hf
    refine qi_iload hC 8 rfl dX7_kinds_133 ?_
    refine qi_goto (tgt := 140) hC (by decide) dX7_kinds_135 ?_
    exact t_X7_kinds_140 hC hQ hf hK
set_option maxRecDepth 100000 in
set_option maxHeartbeats 4000000 in
theorem t_X7_kinds_99 {X : qaX} {l : Launch} {Y : qaY} {fin : Int32 × qaM} (hC : QC X l Y cX7_kinds RX7 11 9) (hQ : QRi X Y (some .int) fin.2 fin.1) {m : qaM} {v1 : Int32} {v2 : Int32} {v5 : Int32} {v6 : Int32} {v7 : Int32} {v8 : Int32} {v9 : Int32} {v10 : Int32} {s0 : Int32} {s1 : Int32} {z : ((qaM × Int32 × Int32) ⊕ (Int32 × qaM))} (hf : b_X7_kinds_99 m v1 v2 v5 v6 v7 v8 v9 v10 s0 s1 = some z) (hK : (qa_K (fun s => QG X Y 11 s.1 85 [(0, .ref (Y.2.2.1 36)), (1, .int v1), (2, .int v2), (5, .int v5), (6, .int v6), (7, .int v7), (8, .int v8), (9, .int s.2.1), (10, .int s.2.2)] []) (qa_eq fin)) z) : QG X Y 11 m 99 [(0, .ref (Y.2.2.1 36)), (1, .int v1), (2, .int v2), (5, .int v5), (6, .int v6), (7, .int v7), (8, .int v8), (9, .int v9), (10, .int v10)] [.int s1, .int s0] := by
  unfold b_X7_kinds_99 at hf
  refine qi_icmp_ge (tgt := 170) hC (by decide) dX7_kinds_99 (fun h => ?_) (fun h => ?_)
  · replace hf := qa_if_t h hf
    obtain ⟨z, rfl, hg⟩ := qa_inr_e hf; have hf := hg
    refine qi_sub hC [0, 3, 5, 6, 7] rfl ?_
    exact t_X7_kinds_170 hC hQ hf hK
  · replace hf := qa_if_f h hf
    refine qi_aload_n hC 0 rfl rfl dX7_kinds_102 ?_
    refine qi_getr hC kf_X7_7 sh_36 rfl dX7_kinds_103 ?_
    refine qi_iload hC 3 rfl dX7_kinds_106 ?_
    refine qi_iload hC 4 rfl dX7_kinds_108 ?_
    refine qi_if_ne (tgt := 118) hC (by decide) dX7_kinds_110 (fun h => ?_) (fun h => ?_)
    · replace hf := qa_if_f h hf
      refine qi_iload hC 5 rfl dX7_kinds_118 ?_
      exact t_X7_kinds_120 hC hQ hf hK
    · replace hf := qa_if_t h hf
      refine qi_iload hC 8 rfl dX7_kinds_113 ?_
      refine qi_goto (tgt := 120) hC (by decide) dX7_kinds_115 ?_
      exact t_X7_kinds_120 hC hQ hf hK
set_option maxRecDepth 100000 in
set_option maxHeartbeats 4000000 in
theorem t_X7_kinds_85 {X : qaX} {l : Launch} {Y : qaY} {fin : Int32 × qaM} (hC : QC X l Y cX7_kinds RX7 11 9) (hQ : QRi X Y (some .int) fin.2 fin.1) {m : qaM} {v1 : Int32} {v2 : Int32} {v5 : Int32} {v6 : Int32} {v7 : Int32} {v8 : Int32} {v9 : Int32} {v10 : Int32} {z : ((qaM × Int32 × Int32) ⊕ (Int32 × qaM))} (hf : b_X7_kinds_85 m v1 v2 v5 v6 v7 v8 v9 v10 = some z) (hK : (qa_K (fun s => QG X Y 11 s.1 85 [(0, .ref (Y.2.2.1 36)), (1, .int v1), (2, .int v2), (5, .int v5), (6, .int v6), (7, .int v7), (8, .int v8), (9, .int s.2.1), (10, .int s.2.2)] []) (qa_eq fin)) z) : QG X Y 11 m 85 [(0, .ref (Y.2.2.1 36)), (1, .int v1), (2, .int v2), (5, .int v5), (6, .int v6), (7, .int v7), (8, .int v8), (9, .int v9), (10, .int v10)] [] := by
  unfold b_X7_kinds_85 at hf
  refine qi_iload hC 8 rfl dX7_kinds_85 ?_
  refine qi_iload hC 4 rfl dX7_kinds_87 ?_
  refine qi_if_ne (tgt := 97) hC (by decide) dX7_kinds_89 (fun h => ?_) (fun h => ?_)
  · replace hf := qa_if_f h hf
    refine qi_bipush hC dX7_kinds_97 kn_bipush_10 ?_
    exact t_X7_kinds_99 hC hQ hf hK
  · replace hf := qa_if_t h hf
    refine qi_bipush hC dX7_kinds_92 kn_bipush_6 ?_
    refine qi_goto (tgt := 99) hC (by decide) dX7_kinds_94 ?_
    exact t_X7_kinds_99 hC hQ hf hK
set_option maxRecDepth 100000 in
set_option maxHeartbeats 4000000 in
theorem tn_X7_kinds_85 {X : qaX} {l : Launch} {Y : qaY} {fin : Int32 × qaM} (hC : QC X l Y cX7_kinds RX7 11 9) (hQ : QRi X Y (some .int) fin.2 fin.1) {v1 : Int32} {v2 : Int32} {v5 : Int32} {v6 : Int32} {v7 : Int32} {v8 : Int32} {z : (Int32 × qaM)} (hK : (qa_eq fin) z) : ∀ (n : Nat) (s : qaM × Int32 × Int32), qa_lp (fun s => b_X7_kinds_85 s.1 v1 v2 v5 v6 v7 v8 s.2.1 s.2.2) n s = some z → QG X Y 11 s.1 85 [(0, .ref (Y.2.2.1 36)), (1, .int v1), (2, .int v2), (5, .int v5), (6, .int v6), (7, .int v7), (8, .int v8), (9, .int s.2.1), (10, .int s.2.2)] [] := by
  intro n
  induction n with
  | zero => intro s hf; cases hf
  | succ n ih =>
    intro s hf
    obtain ⟨y, hy, hf⟩ := qa_lp_e hf
    refine t_X7_kinds_85 hC hQ hy ?_
    rcases hf with ⟨s', rfl, hf⟩ | rfl
    · exact ih s' hf
    · exact hK
set_option maxRecDepth 100000 in
set_option maxHeartbeats 4000000 in
theorem tl_X7_kinds_85 {X : qaX} {l : Launch} {Y : qaY} {fin : Int32 × qaM} (hC : QC X l Y cX7_kinds RX7 11 9) (hQ : QRi X Y (some .int) fin.2 fin.1) {m : qaM} {v1 : Int32} {v2 : Int32} {v5 : Int32} {v6 : Int32} {v7 : Int32} {v8 : Int32} {v9 : Int32} {v10 : Int32} {z : (Int32 × qaM)} (hf : lp_X7_kinds_85 m v1 v2 v5 v6 v7 v8 v9 v10 = some z) (hK : (qa_eq fin) z) : QG X Y 11 m 85 [(0, .ref (Y.2.2.1 36)), (1, .int v1), (2, .int v2), (5, .int v5), (6, .int v6), (7, .int v7), (8, .int v8), (9, .int v9), (10, .int v10)] [] :=
  tn_X7_kinds_85 hC hQ hK qa_F (m, v9, v10) hf
set_option maxRecDepth 100000 in
set_option maxHeartbeats 4000000 in
theorem t_X7_kinds_28 {X : qaX} {l : Launch} {Y : qaY} {fin : Int32 × qaM} (hC : QC X l Y cX7_kinds RX7 11 9) (hQ : QRi X Y (some .int) fin.2 fin.1) {m : qaM} {v1 : Int32} {v2 : Int32} {v3 : Int32} {s0 : Int32} {z : (Int32 × qaM)} (hf : b_X7_kinds_28 m v1 v2 v3 s0 = some z) (hK : (qa_eq fin) z) : QG X Y 11 m 28 [(0, .ref (Y.2.2.1 36)), (1, .int v1), (2, .int v2), (3, .int v3)] [.int s0] := by
  unfold b_X7_kinds_28 at hf
  refine qi_istore hC (by decide) rfl dX7_kinds_28 ?_
  refine qi_aload_n hC 1 rfl rfl dX7_kinds_30 ?_
  refine qi_iload hC 0 rfl dX7_kinds_31 ?_
  obtain ⟨q2, hq2, hf⟩ := Option.bind_eq_some_iff.mp hf
  refine qi_callVi hC (as := [.int s0]) (c_X7_isLinen _ _ _ _ _ hq2) kl_X7_187 sh_36 kc_X7_isLinen rfl rfl (by decide) (by decide) (Nat.le_of_ble_eq_true rfl) dX7_kinds_33 ?_
  refine qi_if_ne (tgt := 42) hC (by decide) dX7_kinds_36 (fun h => ?_) (fun h => ?_)
  · replace hf := qa_if_f h hf
    refine qi_iload_n hC 4 rfl rfl dX7_kinds_42 ?_
    refine qi_bipush hC dX7_kinds_43 kn_bipush_10 ?_
    refine qi_irem hC (by decide) dX7_kinds_45 ?_
    obtain ⟨x3, ex3, hf⟩ := qa_lt_e hf
    refine qi_nmi hC ex3 ?_
    refine qi_istore hC (by decide) rfl dX7_kinds_46 ?_
    refine qi_iload hC 0 rfl dX7_kinds_48 ?_
    refine qi_iconst hC dX7_kinds_50 kn_iconst_0 ?_
    refine qi_iconst hC dX7_kinds_51 kn_iconst_1 ?_
    obtain ⟨q4, hq4, hf⟩ := Option.bind_eq_some_iff.mp hf
    refine qi_callSi hC (as := [.int x3, .int (0 : Int32), .int (1 : Int32)]) (c_X7_in _ _ _ _ _ _ _ hq4) kl_X7_90 kc_X7_in rfl rfl (by decide) (by decide) (Nat.le_of_ble_eq_true rfl) dX7_kinds_52 ?_
    refine qi_if_ne (tgt := 61) hC (by decide) dX7_kinds_55 (fun h => ?_) (fun h => ?_)
    · replace hf := qa_if_f h hf
      refine qi_aload_n hC 2 rfl rfl dX7_kinds_61 ?_
      refine qi_getr hC kf_X7_7 sh_36 rfl dX7_kinds_62 ?_
      refine qi_iload hC 1 rfl dX7_kinds_65 ?_
      obtain ⟨h5, hf⟩ := qa_ck_e hf
      refine qi_iald hC rfl sh_37 (qa_in_v h5) dX7_kinds_67 ?_
      obtain ⟨x6, ex6, hf⟩ := qa_lt_e hf
      refine qi_nmi hC ex6 ?_
      refine qi_istore hC (by decide) rfl dX7_kinds_68 ?_
      refine qi_aload_n hC 3 rfl rfl dX7_kinds_70 ?_
      refine qi_getr hC kf_X7_13 sh_36 rfl dX7_kinds_71 ?_
      refine qi_iload hC 2 rfl dX7_kinds_74 ?_
      obtain ⟨h7, hf⟩ := qa_ck_e hf
      refine qi_iald hC rfl sh_38 (qa_in_v h7) dX7_kinds_76 ?_
      obtain ⟨x8, ex8, hf⟩ := qa_lt_e hf
      refine qi_nmi hC ex8 ?_
      refine qi_istore hC (by decide) rfl dX7_kinds_77 ?_
      refine qi_iconst hC dX7_kinds_79 kn_iconst_0 ?_
      refine qi_istore hC (by decide) rfl dX7_kinds_80 ?_
      refine qi_iconst hC dX7_kinds_82 kn_iconst_0 ?_
      refine qi_istore hC (by decide) rfl dX7_kinds_83 ?_
      refine qi_sub hC [6, 7, 8, 5, 4, 3, 2, 1, 0] rfl ?_
      exact tl_X7_kinds_85 hC hQ hf hK
    · replace hf := qa_if_t h hf
      refine qi_bipush hC dX7_kinds_58 kn_bipush_m7 ?_
      obtain rfl := Option.some.inj hf
      exact qi_ireti hC hQ hK dX7_kinds_60
  · replace hf := qa_if_t h hf
    refine qi_bipush hC dX7_kinds_39 kn_bipush_m5 ?_
    obtain rfl := Option.some.inj hf
    exact qi_ireti hC hQ hK dX7_kinds_41
set_option maxRecDepth 100000 in
set_option maxHeartbeats 4000000 in
theorem c_X7_kinds (l : Launch) (Y : qaY) (m : qaM) (v1 : Int32) (v2 : Int32) (v3 : Int32) (q : Int32 × qaM) (hf : f_X7_kinds m v1 v2 v3 = some q) : qaMi l Y yX7_kinds cX7_kinds 11 (some .int) 9 [.ref (Y.2.2.1 36), .int v1, .int v2, .int v3] m q.2 q.1 := by
  refine qa_enti (by decide +kernel) (Nat.le_of_ble_eq_true rfl) fun X hC hQ => ?_
  have hK : qa_eq q q := rfl
  unfold f_X7_kinds at hf
  refine qi_aload_n hC 0 rfl rfl dX7_kinds_0 ?_
  refine qi_iload_n hC 1 rfl rfl dX7_kinds_1 ?_
  refine qi_iload_n hC 2 rfl rfl dX7_kinds_2 ?_
  obtain ⟨q1, hq1, hf⟩ := Option.bind_eq_some_iff.mp hf
  refine qi_callVi hC (as := [.int v1, .int v2]) (c_X7_toldWrong _ _ _ _ _ _ hq1) kl_X7_292 sh_36 kc_X7_toldWrong rfl rfl (by decide) (by decide) (Nat.le_of_ble_eq_true rfl) dX7_kinds_3 ?_
  refine qi_istore hC (by decide) rfl dX7_kinds_6 ?_
  refine qi_iload hC 0 rfl dX7_kinds_8 ?_
  refine qi_if_eq (tgt := 16) hC (by decide) dX7_kinds_10 (fun h => ?_) (fun h => ?_)
  · replace hf := qa_if_t h hf
    refine qi_iload_n hC 4 rfl rfl dX7_kinds_16 ?_
    refine qi_if_ge (tgt := 24) hC (by decide) dX7_kinds_17 (fun h => ?_) (fun h => ?_)
    · replace hf := qa_if_t h hf
      refine qi_iload_n hC 4 rfl rfl dX7_kinds_24 ?_
      refine qi_bipush hC dX7_kinds_25 kn_bipush_10 ?_
      refine qi_idiv hC (by decide) dX7_kinds_27 ?_
      refine qi_sub hC [1, 2, 3, 4] rfl ?_
      exact t_X7_kinds_28 hC hQ hf hK
    · replace hf := qa_if_f h hf
      refine qi_iconst hC dX7_kinds_20 kn_iconst_m1 ?_
      refine qi_goto (tgt := 28) hC (by decide) dX7_kinds_21 ?_
      refine qi_sub hC [1, 2, 3, 4] rfl ?_
      exact t_X7_kinds_28 hC hQ hf hK
  · replace hf := qa_if_f h hf
    refine qi_iload hC 0 rfl dX7_kinds_13 ?_
    obtain rfl := Option.some.inj hf
    exact qi_ireti hC hQ hK dX7_kinds_15
set_option maxRecDepth 100000 in
set_option maxHeartbeats 4000000 in
theorem t_X7_wants_94 {X : qaX} {l : Launch} {Y : qaY} {fin : Int32 × qaM} (hC : QC X l Y cX7_wants RX7 8 9) (hQ : QRi X Y (some .int) fin.2 fin.1) {m : qaM} {v3 : Int32} {v5 : Int32} {v6 : Int32} {z : (Int32 × qaM)} (hf : b_X7_wants_94 m v3 v5 v6 = some z) (hK : (qa_eq fin) z) : QG X Y 8 m 94 [(0, .ref (Y.2.2.1 36)), (3, .int v3), (5, .int v5), (6, .int v6)] [] := by
  unfold b_X7_wants_94 at hf
  refine qi_aload_n hC 0 rfl rfl dX7_wants_94 ?_
  refine qi_getr hC kf_X7_22 sh_36 rfl dX7_wants_95 ?_
  refine qi_iload_n hC 1 rfl rfl dX7_wants_98 ?_
  refine qi_iload hC 2 rfl dX7_wants_99 ?_
  obtain ⟨h5, hf⟩ := qa_ck_e hf
  obtain ⟨m6, em6, hf⟩ := qa_lt_e hf
  refine qi_iast hC rfl em6 sh_41 (qa_in_v h5) dX7_wants_101 ?_
  refine qi_iload hC 3 rfl dX7_wants_102 ?_
  obtain rfl := Option.some.inj hf
  exact qi_ireti hC hQ hK dX7_wants_104
set_option maxRecDepth 100000 in
set_option maxHeartbeats 4000000 in
theorem t_X7_wants_85 {X : qaX} {l : Launch} {Y : qaY} {fin : Int32 × qaM} (hC : QC X l Y cX7_wants RX7 8 9) (hQ : QRi X Y (some .int) fin.2 fin.1) {m : qaM} {v1 : Int32} {v2 : Int32} {v3 : Int32} {v5 : Int32} {v7 : Int32} {s0 : Int32} {s1 : Int32} {z : ((qaM × Int32 × Int32) ⊕ (Int32 × qaM))} (hf : b_X7_wants_85 m v1 v2 v3 v5 v7 s0 s1 = some z) (hK : (qa_K (fun s => QG X Y 8 s.1 42 [(0, .ref (Y.2.2.1 36)), (1, .int v1), (2, .int v2), (3, .int v3), (5, .int v5), (6, .int s.2.1), (7, .int s.2.2)] []) (qa_eq fin)) z) : QG X Y 8 m 85 [(0, .ref (Y.2.2.1 36)), (1, .int v1), (2, .int v2), (3, .int v3), (5, .int v5), (7, .int v7)] [.int s1, .int s0] := by
  unfold b_X7_wants_85 at hf
  refine qi_ior hC dX7_wants_85 ?_
  obtain ⟨x10, ex10, hf⟩ := qa_lt_e hf
  refine qi_nmi hC ex10 ?_
  refine qi_istore hC (by decide) rfl dX7_wants_86 ?_
  obtain ⟨x11, ex11, hf⟩ := qa_lt_e hf
  refine qi_iinc hC (n := 1) (v := x11) 6 rfl ((congrArg (fun q => v7 + q) kn_iconst_1).trans ex11.symm) (by decide) rfl dX7_wants_88 ?_
  refine qi_goto (tgt := 42) hC (by decide) dX7_wants_91 ?_
  obtain rfl := Option.some.inj hf
  refine qi_sub hC [2, 3, 4, 5, 6, 1, 0] rfl ?_
  exact hK
set_option maxRecDepth 100000 in
set_option maxHeartbeats 4000000 in
theorem t_X7_wants_54 {X : qaX} {l : Launch} {Y : qaY} {fin : Int32 × qaM} (hC : QC X l Y cX7_wants RX7 8 9) (hQ : QRi X Y (some .int) fin.2 fin.1) {m : qaM} {v1 : Int32} {v2 : Int32} {v3 : Int32} {v5 : Int32} {v6 : Int32} {v7 : Int32} {s0 : Int32} {s1 : Int32} {z : ((qaM × Int32 × Int32) ⊕ (Int32 × qaM))} (hf : b_X7_wants_54 m v1 v2 v3 v5 v6 v7 s0 s1 = some z) (hK : (qa_K (fun s => QG X Y 8 s.1 42 [(0, .ref (Y.2.2.1 36)), (1, .int v1), (2, .int v2), (3, .int v3), (5, .int v5), (6, .int s.2.1), (7, .int s.2.2)] []) (qa_eq fin)) z) : QG X Y 8 m 54 [(0, .ref (Y.2.2.1 36)), (1, .int v1), (2, .int v2), (3, .int v3), (5, .int v5), (6, .int v6), (7, .int v7)] [.int s1, .int s0] := by
  unfold b_X7_wants_54 at hf
  refine qi_icmp_gt (tgt := 94) hC (by decide) dX7_wants_54 (fun h => ?_) (fun h => ?_)
  · replace hf := qa_if_t h hf
    obtain ⟨z, rfl, hg⟩ := qa_inr_e hf; have hf := hg
    refine qi_sub hC [0, 3, 4, 5] rfl ?_
    exact t_X7_wants_94 hC hQ hf hK
  · replace hf := qa_if_f h hf
    refine qi_aload_n hC 0 rfl rfl dX7_wants_57 ?_
    refine qi_getr hC kf_X7_22 sh_36 rfl dX7_wants_58 ?_
    refine qi_iload_n hC 3 rfl rfl dX7_wants_61 ?_
    refine qi_iload hC 6 rfl dX7_wants_62 ?_
    obtain ⟨h7, hf⟩ := qa_ck_e hf
    obtain ⟨m8, em8, hf⟩ := qa_lt_e hf
    refine qi_iast hC rfl em8 sh_41 (qa_in_v h7) dX7_wants_64 ?_
    refine qi_iload hC 5 rfl dX7_wants_65 ?_
    refine qi_aload_n hC 0 rfl rfl dX7_wants_67 ?_
    refine qi_iload_n hC 1 rfl rfl dX7_wants_68 ?_
    refine qi_iload_n hC 2 rfl rfl dX7_wants_69 ?_
    obtain ⟨q9, hq9, hf⟩ := Option.bind_eq_some_iff.mp hf
    refine qi_callVi hC (as := [.int v1, .int v2]) (c_X7_unlike _ _ _ _ _ _ hq9) kl_X7_295 sh_36 kc_X7_unlike rfl rfl (by decide) (by decide) (Nat.le_of_ble_eq_true rfl) dX7_wants_70 ?_
    refine qi_iconst hC dX7_wants_73 kn_iconst_m1 ?_
    refine qi_icmp_ne (tgt := 84) hC (by decide) dX7_wants_74 (fun h => ?_) (fun h => ?_)
    · replace hf := qa_if_f h hf
      refine qi_iconst hC dX7_wants_84 kn_iconst_0 ?_
      refine qi_sub hC [0, 1, 2, 3, 4, 6] rfl ?_
      exact t_X7_wants_85 hC hQ hf hK
    · replace hf := qa_if_t h hf
      refine qi_iconst hC dX7_wants_77 kn_iconst_1 ?_
      refine qi_iload hC 6 rfl dX7_wants_78 ?_
      refine qi_ishl hC dX7_wants_80 ?_
      refine qi_goto (tgt := 85) hC (by decide) dX7_wants_81 ?_
      refine qi_sub hC [0, 1, 2, 3, 4, 6] rfl ?_
      exact t_X7_wants_85 hC hQ hf hK
set_option maxRecDepth 100000 in
set_option maxHeartbeats 4000000 in
theorem t_X7_wants_42 {X : qaX} {l : Launch} {Y : qaY} {fin : Int32 × qaM} (hC : QC X l Y cX7_wants RX7 8 9) (hQ : QRi X Y (some .int) fin.2 fin.1) {m : qaM} {v1 : Int32} {v2 : Int32} {v3 : Int32} {v5 : Int32} {v6 : Int32} {v7 : Int32} {z : ((qaM × Int32 × Int32) ⊕ (Int32 × qaM))} (hf : b_X7_wants_42 m v1 v2 v3 v5 v6 v7 = some z) (hK : (qa_K (fun s => QG X Y 8 s.1 42 [(0, .ref (Y.2.2.1 36)), (1, .int v1), (2, .int v2), (3, .int v3), (5, .int v5), (6, .int s.2.1), (7, .int s.2.2)] []) (qa_eq fin)) z) : QG X Y 8 m 42 [(0, .ref (Y.2.2.1 36)), (1, .int v1), (2, .int v2), (3, .int v3), (5, .int v5), (6, .int v6), (7, .int v7)] [] := by
  unfold b_X7_wants_42 at hf
  refine qi_iload hC 6 rfl dX7_wants_42 ?_
  refine qi_iload_n hC 3 rfl rfl dX7_wants_44 ?_
  refine qi_if_ne (tgt := 53) hC (by decide) dX7_wants_45 (fun h => ?_) (fun h => ?_)
  · replace hf := qa_if_f h hf
    refine qi_iconst hC dX7_wants_53 kn_iconst_3 ?_
    exact t_X7_wants_54 hC hQ hf hK
  · replace hf := qa_if_t h hf
    refine qi_bipush hC dX7_wants_48 kn_bipush_8 ?_
    refine qi_goto (tgt := 54) hC (by decide) dX7_wants_50 ?_
    exact t_X7_wants_54 hC hQ hf hK
set_option maxRecDepth 100000 in
set_option maxHeartbeats 4000000 in
theorem tn_X7_wants_42 {X : qaX} {l : Launch} {Y : qaY} {fin : Int32 × qaM} (hC : QC X l Y cX7_wants RX7 8 9) (hQ : QRi X Y (some .int) fin.2 fin.1) {v1 : Int32} {v2 : Int32} {v3 : Int32} {v5 : Int32} {z : (Int32 × qaM)} (hK : (qa_eq fin) z) : ∀ (n : Nat) (s : qaM × Int32 × Int32), qa_lp (fun s => b_X7_wants_42 s.1 v1 v2 v3 v5 s.2.1 s.2.2) n s = some z → QG X Y 8 s.1 42 [(0, .ref (Y.2.2.1 36)), (1, .int v1), (2, .int v2), (3, .int v3), (5, .int v5), (6, .int s.2.1), (7, .int s.2.2)] [] := by
  intro n
  induction n with
  | zero => intro s hf; cases hf
  | succ n ih =>
    intro s hf
    obtain ⟨y, hy, hf⟩ := qa_lp_e hf
    refine t_X7_wants_42 hC hQ hy ?_
    rcases hf with ⟨s', rfl, hf⟩ | rfl
    · exact ih s' hf
    · exact hK
set_option maxRecDepth 100000 in
set_option maxHeartbeats 4000000 in
theorem tl_X7_wants_42 {X : qaX} {l : Launch} {Y : qaY} {fin : Int32 × qaM} (hC : QC X l Y cX7_wants RX7 8 9) (hQ : QRi X Y (some .int) fin.2 fin.1) {m : qaM} {v1 : Int32} {v2 : Int32} {v3 : Int32} {v5 : Int32} {v6 : Int32} {v7 : Int32} {z : (Int32 × qaM)} (hf : lp_X7_wants_42 m v1 v2 v3 v5 v6 v7 = some z) (hK : (qa_eq fin) z) : QG X Y 8 m 42 [(0, .ref (Y.2.2.1 36)), (1, .int v1), (2, .int v2), (3, .int v3), (5, .int v5), (6, .int v6), (7, .int v7)] [] :=
  tn_X7_wants_42 hC hQ hK qa_F (m, v6, v7) hf
set_option maxRecDepth 100000 in
set_option maxHeartbeats 4000000 in
theorem c_X7_wants (l : Launch) (Y : qaY) (m : qaM) (v1 : Int32) (v2 : Int32) (v3 : Int32) (q : Int32 × qaM) (hf : f_X7_wants m v1 v2 v3 = some q) : qaMi l Y yX7_wants cX7_wants 8 (some .int) 9 [.ref (Y.2.2.1 36), .int v1, .int v2, .int v3] m q.2 q.1 := by
  refine qa_enti (by decide +kernel) (Nat.le_of_ble_eq_true rfl) fun X hC hQ => ?_
  have hK : qa_eq q q := rfl
  unfold f_X7_wants at hf
  refine qi_aload_n hC 0 rfl rfl dX7_wants_0 ?_
  refine qi_iload_n hC 1 rfl rfl dX7_wants_1 ?_
  refine qi_iload_n hC 2 rfl rfl dX7_wants_2 ?_
  obtain ⟨q1, hq1, hf⟩ := Option.bind_eq_some_iff.mp hf
  refine qi_callVi hC (as := [.int v1, .int v2]) (c_X7_toldWrong _ _ _ _ _ _ hq1) kl_X7_292 sh_36 kc_X7_toldWrong rfl rfl (by decide) (by decide) (Nat.le_of_ble_eq_true rfl) dX7_wants_3 ?_
  refine qi_istore hC (by decide) rfl dX7_wants_6 ?_
  refine qi_iload hC 0 rfl dX7_wants_8 ?_
  refine qi_if_eq (tgt := 16) hC (by decide) dX7_wants_10 (fun h => ?_) (fun h => ?_)
  · replace hf := qa_if_t h hf
    refine qi_iload_n hC 4 rfl rfl dX7_wants_16 ?_
    refine qi_iconst hC dX7_wants_17 kn_iconst_0 ?_
    refine qi_iconst hC dX7_wants_18 kn_iconst_1 ?_
    obtain ⟨q2, hq2, hf⟩ := Option.bind_eq_some_iff.mp hf
    refine qi_callSi hC (as := [.int v3, .int (0 : Int32), .int (1 : Int32)]) (c_X7_in _ _ _ _ _ _ _ hq2) kl_X7_90 kc_X7_in rfl rfl (by decide) (by decide) (Nat.le_of_ble_eq_true rfl) dX7_wants_19 ?_
    refine qi_if_ne (tgt := 28) hC (by decide) dX7_wants_22 (fun h => ?_) (fun h => ?_)
    · replace hf := qa_if_f h hf
      refine qi_aload_n hC 1 rfl rfl dX7_wants_28 ?_
      refine qi_getr hC kf_X7_22 sh_36 rfl dX7_wants_29 ?_
      refine qi_iload_n hC 4 rfl rfl dX7_wants_32 ?_
      obtain ⟨h3, hf⟩ := qa_ck_e hf
      refine qi_iald hC rfl sh_41 (qa_in_v h3) dX7_wants_33 ?_
      obtain ⟨x4, ex4, hf⟩ := qa_lt_e hf
      refine qi_nmi hC ex4 ?_
      refine qi_istore hC (by decide) rfl dX7_wants_34 ?_
      refine qi_iconst hC dX7_wants_36 kn_iconst_0 ?_
      refine qi_istore hC (by decide) rfl dX7_wants_37 ?_
      refine qi_iconst hC dX7_wants_39 kn_iconst_0 ?_
      refine qi_istore hC (by decide) rfl dX7_wants_40 ?_
      refine qi_sub hC [4, 5, 6, 7, 2, 1, 0] rfl ?_
      exact tl_X7_wants_42 hC hQ hf hK
    · replace hf := qa_if_t h hf
      refine qi_bipush hC dX7_wants_25 kn_bipush_m7 ?_
      obtain rfl := Option.some.inj hf
      exact qi_ireti hC hQ hK dX7_wants_27
  · replace hf := qa_if_f h hf
    refine qi_iload hC 0 rfl dX7_wants_13 ?_
    obtain rfl := Option.some.inj hf
    exact qi_ireti hC hQ hK dX7_wants_15
set_option maxRecDepth 100000 in
set_option maxHeartbeats 4000000 in
theorem t_X7_weeks_99 {X : qaX} {l : Launch} {Y : qaY} {fin : Int32 × qaM} (hC : QC X l Y cX7_weeks RX7 8 9) (hQ : QRi X Y (some .int) fin.2 fin.1) {m : qaM} {v2 : Int32} {v4 : Int32} {v5 : Int32} {z : (Int32 × qaM)} (hf : b_X7_weeks_99 m v2 v4 v5 = some z) (hK : (qa_eq fin) z) : QG X Y 8 m 99 [(2, .int v2), (4, .int v4), (5, .int v5)] [] := by
  unfold b_X7_weeks_99 at hf
  refine qi_iload_n hC 0 rfl rfl dX7_weeks_99 ?_
  refine qi_if_ne (tgt := 108) hC (by decide) dX7_weeks_100 (fun h => ?_) (fun h => ?_)
  · replace hf := qa_if_f h hf
    refine qi_iload hC 2 rfl dX7_weeks_108 ?_
    obtain rfl := Option.some.inj hf
    exact qi_ireti hC hQ hK dX7_weeks_110
  · replace hf := qa_if_t h hf
    refine qi_iload hC 1 rfl dX7_weeks_103 ?_
    refine qi_goto (tgt := 110) hC (by decide) dX7_weeks_105 ?_
    obtain rfl := Option.some.inj hf
    exact qi_ireti hC hQ hK dX7_weeks_110
set_option maxRecDepth 100000 in
set_option maxHeartbeats 4000000 in
theorem t_X7_weeks_90 {X : qaX} {l : Launch} {Y : qaY} {fin : Int32 × qaM} (hC : QC X l Y cX7_weeks RX7 8 9) (hQ : QRi X Y (some .int) fin.2 fin.1) {m : qaM} {v1 : Int32} {v2 : Int32} {v4 : Int32} {v6 : Int32} {s0 : Int32} {s1 : Int32} {z : ((qaM × Int32 × Int32 × Int32) ⊕ (Int32 × qaM))} (hf : b_X7_weeks_90 m v1 v2 v4 v6 s0 s1 = some z) (hK : (qa_K (fun s => QG X Y 8 s.1 33 [(0, .ref (Y.2.2.1 36)), (1, .int v1), (2, .int v2), (4, .int s.2.1), (5, .int s.2.2.1), (6, .int s.2.2.2)] []) (qa_eq fin)) z) : QG X Y 8 m 90 [(0, .ref (Y.2.2.1 36)), (1, .int v1), (2, .int v2), (4, .int v4), (6, .int v6)] [.int s1, .int s0] := by
  unfold b_X7_weeks_90 at hf
  refine qi_iadd hC dX7_weeks_90 ?_
  obtain ⟨x4, ex4, hf⟩ := qa_lt_e hf
  refine qi_nmi hC ex4 ?_
  refine qi_istore hC (by decide) rfl dX7_weeks_91 ?_
  obtain ⟨x5, ex5, hf⟩ := qa_lt_e hf
  refine qi_iinc hC (n := 1) (v := x5) 5 rfl ((congrArg (fun q => v6 + q) kn_iconst_1).trans ex5.symm) (by decide) rfl dX7_weeks_93 ?_
  refine qi_goto (tgt := 33) hC (by decide) dX7_weeks_96 ?_
  obtain rfl := Option.some.inj hf
  refine qi_sub hC [2, 3, 4, 5, 1, 0] rfl ?_
  exact hK
set_option maxRecDepth 100000 in
set_option maxHeartbeats 4000000 in
theorem t_X7_weeks_76 {X : qaX} {l : Launch} {Y : qaY} {fin : Int32 × qaM} (hC : QC X l Y cX7_weeks RX7 8 9) (hQ : QRi X Y (some .int) fin.2 fin.1) {m : qaM} {v1 : Int32} {v2 : Int32} {v5 : Int32} {v6 : Int32} {v7 : Int32} {s0 : Int32} {z : ((qaM × Int32 × Int32 × Int32) ⊕ (Int32 × qaM))} (hf : b_X7_weeks_76 m v1 v2 v5 v6 v7 s0 = some z) (hK : (qa_K (fun s => QG X Y 8 s.1 33 [(0, .ref (Y.2.2.1 36)), (1, .int v1), (2, .int v2), (4, .int s.2.1), (5, .int s.2.2.1), (6, .int s.2.2.2)] []) (qa_eq fin)) z) : QG X Y 8 m 76 [(0, .ref (Y.2.2.1 36)), (1, .int v1), (2, .int v2), (5, .int v5), (6, .int v6), (7, .int v7)] [.int s0] := by
  unfold b_X7_weeks_76 at hf
  refine qi_istore hC (by decide) rfl dX7_weeks_76 ?_
  refine qi_iload hC 4 rfl dX7_weeks_78 ?_
  refine qi_iload hC 6 rfl dX7_weeks_80 ?_
  refine qi_if_eq (tgt := 89) hC (by decide) dX7_weeks_82 (fun h => ?_) (fun h => ?_)
  · replace hf := qa_if_t h hf
    refine qi_iconst hC dX7_weeks_89 kn_iconst_0 ?_
    refine qi_sub hC [1, 2, 3, 0, 5] rfl ?_
    exact t_X7_weeks_90 hC hQ hf hK
  · replace hf := qa_if_f h hf
    refine qi_iconst hC dX7_weeks_85 kn_iconst_1 ?_
    refine qi_goto (tgt := 90) hC (by decide) dX7_weeks_86 ?_
    refine qi_sub hC [1, 2, 3, 0, 5] rfl ?_
    exact t_X7_weeks_90 hC hQ hf hK
set_option maxRecDepth 100000 in
set_option maxHeartbeats 4000000 in
theorem t_X7_weeks_74 {X : qaX} {l : Launch} {Y : qaY} {fin : Int32 × qaM} (hC : QC X l Y cX7_weeks RX7 8 9) (hQ : QRi X Y (some .int) fin.2 fin.1) {m : qaM} {v1 : Int32} {v2 : Int32} {v4 : Int32} {v5 : Int32} {v6 : Int32} {v7 : Int32} {z : ((qaM × Int32 × Int32 × Int32) ⊕ (Int32 × qaM))} (hf : b_X7_weeks_74 m v1 v2 v4 v5 v6 v7 = some z) (hK : (qa_K (fun s => QG X Y 8 s.1 33 [(0, .ref (Y.2.2.1 36)), (1, .int v1), (2, .int v2), (4, .int s.2.1), (5, .int s.2.2.1), (6, .int s.2.2.2)] []) (qa_eq fin)) z) : QG X Y 8 m 74 [(0, .ref (Y.2.2.1 36)), (1, .int v1), (2, .int v2), (4, .int v4), (5, .int v5), (6, .int v6), (7, .int v7)] [] := by
  unfold b_X7_weeks_74 at hf
  refine qi_iload hC 3 rfl dX7_weeks_74 ?_
  refine qi_sub hC [0, 1, 2, 4, 5, 6] rfl ?_
  exact t_X7_weeks_76 hC hQ hf hK
set_option maxRecDepth 100000 in
set_option maxHeartbeats 4000000 in
theorem t_X7_weeks_56 {X : qaX} {l : Launch} {Y : qaY} {fin : Int32 × qaM} (hC : QC X l Y cX7_weeks RX7 8 9) (hQ : QRi X Y (some .int) fin.2 fin.1) {m : qaM} {v1 : Int32} {v2 : Int32} {v4 : Int32} {v5 : Int32} {v6 : Int32} {s0 : Int32} {z : ((qaM × Int32 × Int32 × Int32) ⊕ (Int32 × qaM))} (hf : b_X7_weeks_56 m v1 v2 v4 v5 v6 s0 = some z) (hK : (qa_K (fun s => QG X Y 8 s.1 33 [(0, .ref (Y.2.2.1 36)), (1, .int v1), (2, .int v2), (4, .int s.2.1), (5, .int s.2.2.1), (6, .int s.2.2.2)] []) (qa_eq fin)) z) : QG X Y 8 m 56 [(0, .ref (Y.2.2.1 36)), (1, .int v1), (2, .int v2), (4, .int v4), (5, .int v5), (6, .int v6)] [.int s0] := by
  unfold b_X7_weeks_56 at hf
  refine qi_istore hC (by decide) rfl dX7_weeks_56 ?_
  refine qi_iload hC 0 rfl dX7_weeks_58 ?_
  refine qi_if_eq (tgt := 74) hC (by decide) dX7_weeks_60 (fun h => ?_) (fun h => ?_)
  · replace hf := qa_if_t h hf
    refine qi_sub hC [1, 2, 3, 4, 5, 6, 0] rfl ?_
    exact t_X7_weeks_74 hC hQ hf hK
  · replace hf := qa_if_f h hf
    refine qi_iload hC 4 rfl dX7_weeks_63 ?_
    refine qi_iconst hC dX7_weeks_65 kn_iconst_m1 ?_
    refine qi_icmp_ne (tgt := 74) hC (by decide) dX7_weeks_66 (fun h => ?_) (fun h => ?_)
    · replace hf := qa_if_f h hf
      refine qi_sub hC [1, 2, 3, 4, 5, 6, 0] rfl ?_
      exact t_X7_weeks_74 hC hQ hf hK
    · replace hf := qa_if_t h hf
      refine qi_iload hC 6 rfl dX7_weeks_69 ?_
      refine qi_goto (tgt := 76) hC (by decide) dX7_weeks_71 ?_
      refine qi_sub hC [1, 2, 3, 5, 6, 0] rfl ?_
      exact t_X7_weeks_76 hC hQ hf hK
set_option maxRecDepth 100000 in
set_option maxHeartbeats 4000000 in
theorem t_X7_weeks_33 {X : qaX} {l : Launch} {Y : qaY} {fin : Int32 × qaM} (hC : QC X l Y cX7_weeks RX7 8 9) (hQ : QRi X Y (some .int) fin.2 fin.1) {m : qaM} {v1 : Int32} {v2 : Int32} {v4 : Int32} {v5 : Int32} {v6 : Int32} {z : ((qaM × Int32 × Int32 × Int32) ⊕ (Int32 × qaM))} (hf : b_X7_weeks_33 m v1 v2 v4 v5 v6 = some z) (hK : (qa_K (fun s => QG X Y 8 s.1 33 [(0, .ref (Y.2.2.1 36)), (1, .int v1), (2, .int v2), (4, .int s.2.1), (5, .int s.2.2.1), (6, .int s.2.2.2)] []) (qa_eq fin)) z) : QG X Y 8 m 33 [(0, .ref (Y.2.2.1 36)), (1, .int v1), (2, .int v2), (4, .int v4), (5, .int v5), (6, .int v6)] [] := by
  unfold b_X7_weeks_33 at hf
  refine qi_iload hC 5 rfl dX7_weeks_33 ?_
  refine qi_bipush hC dX7_weeks_35 kn_bipush_60 ?_
  refine qi_icmp_gt (tgt := 99) hC (by decide) dX7_weeks_37 (fun h => ?_) (fun h => ?_)
  · replace hf := qa_if_t h hf
    obtain ⟨z, rfl, hg⟩ := qa_inr_e hf; have hf := hg
    refine qi_sub hC [2, 3, 4] rfl ?_
    exact t_X7_weeks_99 hC hQ hf hK
  · replace hf := qa_if_f h hf
    refine qi_aload_n hC 0 rfl rfl dX7_weeks_40 ?_
    refine qi_iload_n hC 1 rfl rfl dX7_weeks_41 ?_
    refine qi_iload hC 5 rfl dX7_weeks_42 ?_
    obtain ⟨q3, hq3, hf⟩ := Option.bind_eq_some_iff.mp hf
    refine qi_callVi hC (as := [.int v1, .int v6]) (c_X7_unlike _ _ _ _ _ _ hq3) kl_X7_295 sh_36 kc_X7_unlike rfl rfl (by decide) (by decide) (Nat.le_of_ble_eq_true rfl) dX7_weeks_44 ?_
    refine qi_iconst hC dX7_weeks_47 kn_iconst_m1 ?_
    refine qi_icmp_ne (tgt := 55) hC (by decide) dX7_weeks_48 (fun h => ?_) (fun h => ?_)
    · replace hf := qa_if_f h hf
      refine qi_iconst hC dX7_weeks_55 kn_iconst_0 ?_
      exact t_X7_weeks_56 hC hQ hf hK
    · replace hf := qa_if_t h hf
      refine qi_iconst hC dX7_weeks_51 kn_iconst_1 ?_
      refine qi_goto (tgt := 56) hC (by decide) dX7_weeks_52 ?_
      exact t_X7_weeks_56 hC hQ hf hK
set_option maxRecDepth 100000 in
set_option maxHeartbeats 4000000 in
theorem tn_X7_weeks_33 {X : qaX} {l : Launch} {Y : qaY} {fin : Int32 × qaM} (hC : QC X l Y cX7_weeks RX7 8 9) (hQ : QRi X Y (some .int) fin.2 fin.1) {v1 : Int32} {v2 : Int32} {z : (Int32 × qaM)} (hK : (qa_eq fin) z) : ∀ (n : Nat) (s : qaM × Int32 × Int32 × Int32), qa_lp (fun s => b_X7_weeks_33 s.1 v1 v2 s.2.1 s.2.2.1 s.2.2.2) n s = some z → QG X Y 8 s.1 33 [(0, .ref (Y.2.2.1 36)), (1, .int v1), (2, .int v2), (4, .int s.2.1), (5, .int s.2.2.1), (6, .int s.2.2.2)] [] := by
  intro n
  induction n with
  | zero => intro s hf; cases hf
  | succ n ih =>
    intro s hf
    obtain ⟨y, hy, hf⟩ := qa_lp_e hf
    refine t_X7_weeks_33 hC hQ hy ?_
    rcases hf with ⟨s', rfl, hf⟩ | rfl
    · exact ih s' hf
    · exact hK
set_option maxRecDepth 100000 in
set_option maxHeartbeats 4000000 in
theorem tl_X7_weeks_33 {X : qaX} {l : Launch} {Y : qaY} {fin : Int32 × qaM} (hC : QC X l Y cX7_weeks RX7 8 9) (hQ : QRi X Y (some .int) fin.2 fin.1) {m : qaM} {v1 : Int32} {v2 : Int32} {v4 : Int32} {v5 : Int32} {v6 : Int32} {z : (Int32 × qaM)} (hf : lp_X7_weeks_33 m v1 v2 v4 v5 v6 = some z) (hK : (qa_eq fin) z) : QG X Y 8 m 33 [(0, .ref (Y.2.2.1 36)), (1, .int v1), (2, .int v2), (4, .int v4), (5, .int v5), (6, .int v6)] [] :=
  tn_X7_weeks_33 hC hQ hK qa_F (m, v4, v5, v6) hf
set_option maxRecDepth 100000 in
set_option maxHeartbeats 4000000 in
theorem c_X7_weeks (l : Launch) (Y : qaY) (m : qaM) (v1 : Int32) (v2 : Int32) (q : Int32 × qaM) (hf : f_X7_weeks m v1 v2 = some q) : qaMi l Y yX7_weeks cX7_weeks 8 (some .int) 9 [.ref (Y.2.2.1 36), .int v1, .int v2] m q.2 q.1 := by
  refine qa_enti (by decide +kernel) (Nat.le_of_ble_eq_true rfl) fun X hC hQ => ?_
  have hK : qa_eq q q := rfl
  unfold f_X7_weeks at hf
  refine qi_aload_n hC 0 rfl rfl dX7_weeks_0 ?_
  refine qi_iload_n hC 1 rfl rfl dX7_weeks_1 ?_
  obtain ⟨q1, hq1, hf⟩ := Option.bind_eq_some_iff.mp hf
  refine qi_callVi hC (as := [.int v1]) (c_X7_sheetWrong _ _ _ _ _ hq1) kl_X7_289 sh_36 kc_X7_sheetWrong rfl rfl (by decide) (by decide) (Nat.le_of_ble_eq_true rfl) dX7_weeks_2 ?_
  refine qi_istore_n hC rfl (by decide) rfl dX7_weeks_5 ?_
  refine qi_iload_n hC 0 rfl rfl dX7_weeks_6 ?_
  refine qi_if_eq (tgt := 12) hC (by decide) dX7_weeks_7 (fun h => ?_) (fun h => ?_)
  · replace hf := qa_if_t h hf
    refine qi_iload_n hC 3 rfl rfl dX7_weeks_12 ?_
    refine qi_iconst hC dX7_weeks_13 kn_iconst_0 ?_
    refine qi_iconst hC dX7_weeks_14 kn_iconst_1 ?_
    obtain ⟨q2, hq2, hf⟩ := Option.bind_eq_some_iff.mp hf
    refine qi_callSi hC (as := [.int v2, .int (0 : Int32), .int (1 : Int32)]) (c_X7_in _ _ _ _ _ _ _ hq2) kl_X7_90 kc_X7_in rfl rfl (by decide) (by decide) (Nat.le_of_ble_eq_true rfl) dX7_weeks_15 ?_
    refine qi_if_ne (tgt := 24) hC (by decide) dX7_weeks_18 (fun h => ?_) (fun h => ?_)
    · replace hf := qa_if_f h hf
      refine qi_iconst hC dX7_weeks_24 kn_iconst_m1 ?_
      refine qi_istore hC (by decide) rfl dX7_weeks_25 ?_
      refine qi_iconst hC dX7_weeks_27 kn_iconst_0 ?_
      refine qi_istore hC (by decide) rfl dX7_weeks_28 ?_
      refine qi_iconst hC dX7_weeks_30 kn_iconst_0 ?_
      refine qi_istore hC (by decide) rfl dX7_weeks_31 ?_
      refine qi_sub hC [4, 5, 6, 2, 1, 0] rfl ?_
      exact tl_X7_weeks_33 hC hQ hf hK
    · replace hf := qa_if_t h hf
      refine qi_bipush hC dX7_weeks_21 kn_bipush_m7 ?_
      obtain rfl := Option.some.inj hf
      exact qi_ireti hC hQ hK dX7_weeks_23
  · replace hf := qa_if_f h hf
    refine qi_iload_n hC 0 rfl rfl dX7_weeks_10 ?_
    obtain rfl := Option.some.inj hf
    exact qi_ireti hC hQ hK dX7_weeks_11
set_option maxRecDepth 100000 in
set_option maxHeartbeats 4000000 in
theorem t_X7_laws_69 {X : qaX} {l : Launch} {Y : qaY} {fin : Int32 × qaM} (hC : QC X l Y cX7_laws RX7 7 9) (hQ : QRi X Y (some .int) fin.2 fin.1) {m : qaM} {v4 : Int32} {v5 : Int32} {z : (Int32 × qaM)} (hf : b_X7_laws_69 m v4 v5 = some z) (hK : (qa_eq fin) z) : QG X Y 7 m 69 [(0, .ref (Y.2.2.1 36)), (4, .int v4), (5, .int v5)] [] := by
  unfold b_X7_laws_69 at hf
  refine qi_aload_n hC 0 rfl rfl dX7_laws_69 ?_
  refine qi_iload hC 1 rfl dX7_laws_70 ?_
  obtain ⟨m3, em3, hf⟩ := qa_lt_e hf
  refine qi_puti hC em3 kp_X7_103 sh_36 rfl rfl rfl dX7_laws_72 ?_
  refine qi_iload hC 2 rfl dX7_laws_75 ?_
  obtain rfl := Option.some.inj hf
  exact qi_ireti hC hQ hK dX7_laws_77
set_option maxRecDepth 100000 in
set_option maxHeartbeats 4000000 in
theorem t_X7_laws_60 {X : qaX} {l : Launch} {Y : qaY} {fin : Int32 × qaM} (hC : QC X l Y cX7_laws RX7 7 9) (hQ : QRi X Y (some .int) fin.2 fin.1) {m : qaM} {v1 : Int32} {v2 : Int32} {v4 : Int32} {v6 : Int32} {s0 : Int32} {s1 : Int32} {z : ((qaM × Int32 × Int32) ⊕ (Int32 × qaM))} (hf : b_X7_laws_60 m v1 v2 v4 v6 s0 s1 = some z) (hK : (qa_K (fun s => QG X Y 7 s.1 25 [(0, .ref (Y.2.2.1 36)), (1, .int v1), (2, .int v2), (4, .int v4), (5, .int s.2.1), (6, .int s.2.2)] []) (qa_eq fin)) z) : QG X Y 7 m 60 [(0, .ref (Y.2.2.1 36)), (1, .int v1), (2, .int v2), (4, .int v4), (6, .int v6)] [.int s1, .int s0] := by
  unfold b_X7_laws_60 at hf
  refine qi_ior hC dX7_laws_60 ?_
  obtain ⟨x6, ex6, hf⟩ := qa_lt_e hf
  refine qi_nmi hC ex6 ?_
  refine qi_istore hC (by decide) rfl dX7_laws_61 ?_
  obtain ⟨x7, ex7, hf⟩ := qa_lt_e hf
  refine qi_iinc hC (n := 1) (v := x7) 5 rfl ((congrArg (fun q => v6 + q) kn_iconst_1).trans ex7.symm) (by decide) rfl dX7_laws_63 ?_
  refine qi_goto (tgt := 25) hC (by decide) dX7_laws_66 ?_
  obtain rfl := Option.some.inj hf
  refine qi_sub hC [2, 3, 4, 5, 1, 0] rfl ?_
  exact hK
set_option maxRecDepth 100000 in
set_option maxHeartbeats 4000000 in
theorem t_X7_laws_25 {X : qaX} {l : Launch} {Y : qaY} {fin : Int32 × qaM} (hC : QC X l Y cX7_laws RX7 7 9) (hQ : QRi X Y (some .int) fin.2 fin.1) {m : qaM} {v1 : Int32} {v2 : Int32} {v4 : Int32} {v5 : Int32} {v6 : Int32} {z : ((qaM × Int32 × Int32) ⊕ (Int32 × qaM))} (hf : b_X7_laws_25 m v1 v2 v4 v5 v6 = some z) (hK : (qa_K (fun s => QG X Y 7 s.1 25 [(0, .ref (Y.2.2.1 36)), (1, .int v1), (2, .int v2), (4, .int v4), (5, .int s.2.1), (6, .int s.2.2)] []) (qa_eq fin)) z) : QG X Y 7 m 25 [(0, .ref (Y.2.2.1 36)), (1, .int v1), (2, .int v2), (4, .int v4), (5, .int v5), (6, .int v6)] [] := by
  unfold b_X7_laws_25 at hf
  refine qi_iload hC 5 rfl dX7_laws_25 ?_
  refine qi_aload_n hC 0 rfl rfl dX7_laws_27 ?_
  refine qi_geti hC kf_X7_100 sh_36 rfl dX7_laws_28 ?_
  refine qi_icmp_ge (tgt := 69) hC (by decide) dX7_laws_31 (fun h => ?_) (fun h => ?_)
  · replace hf := qa_if_t h hf
    obtain ⟨z, rfl, hg⟩ := qa_inr_e hf; have hf := hg
    refine qi_sub hC [0, 3, 4] rfl ?_
    exact t_X7_laws_69 hC hQ hf hK
  · replace hf := qa_if_f h hf
    refine qi_aload_n hC 0 rfl rfl dX7_laws_34 ?_
    refine qi_iload hC 5 rfl dX7_laws_35 ?_
    obtain ⟨m4, em4, hf⟩ := qa_lt_e hf
    refine qi_puti hC em4 kp_X7_103 sh_36 rfl rfl rfl dX7_laws_37 ?_
    refine qi_iload hC 4 rfl dX7_laws_40 ?_
    refine qi_aload_n hC 0 rfl rfl dX7_laws_42 ?_
    refine qi_iload_n hC 1 rfl rfl dX7_laws_43 ?_
    refine qi_iload_n hC 2 rfl rfl dX7_laws_44 ?_
    obtain ⟨q5, hq5, hf⟩ := Option.bind_eq_some_iff.mp hf
    refine qi_callVi hC (as := [.int v1, .int v2]) (c_X7_unlike _ _ _ _ _ _ hq5) kl_X7_295 sh_36 kc_X7_unlike rfl rfl (by decide) (by decide) (Nat.le_of_ble_eq_true rfl) dX7_laws_45 ?_
    refine qi_iconst hC dX7_laws_48 kn_iconst_m1 ?_
    refine qi_icmp_ne (tgt := 59) hC (by decide) dX7_laws_49 (fun h => ?_) (fun h => ?_)
    · replace hf := qa_if_f h hf
      refine qi_iconst hC dX7_laws_59 kn_iconst_0 ?_
      refine qi_sub hC [0, 1, 2, 3, 5] rfl ?_
      exact t_X7_laws_60 hC hQ hf hK
    · replace hf := qa_if_t h hf
      refine qi_iconst hC dX7_laws_52 kn_iconst_1 ?_
      refine qi_iload hC 5 rfl dX7_laws_53 ?_
      refine qi_ishl hC dX7_laws_55 ?_
      refine qi_goto (tgt := 60) hC (by decide) dX7_laws_56 ?_
      refine qi_sub hC [0, 1, 2, 3, 5] rfl ?_
      exact t_X7_laws_60 hC hQ hf hK
set_option maxRecDepth 100000 in
set_option maxHeartbeats 4000000 in
theorem tn_X7_laws_25 {X : qaX} {l : Launch} {Y : qaY} {fin : Int32 × qaM} (hC : QC X l Y cX7_laws RX7 7 9) (hQ : QRi X Y (some .int) fin.2 fin.1) {v1 : Int32} {v2 : Int32} {v4 : Int32} {z : (Int32 × qaM)} (hK : (qa_eq fin) z) : ∀ (n : Nat) (s : qaM × Int32 × Int32), qa_lp (fun s => b_X7_laws_25 s.1 v1 v2 v4 s.2.1 s.2.2) n s = some z → QG X Y 7 s.1 25 [(0, .ref (Y.2.2.1 36)), (1, .int v1), (2, .int v2), (4, .int v4), (5, .int s.2.1), (6, .int s.2.2)] [] := by
  intro n
  induction n with
  | zero => intro s hf; cases hf
  | succ n ih =>
    intro s hf
    obtain ⟨y, hy, hf⟩ := qa_lp_e hf
    refine t_X7_laws_25 hC hQ hy ?_
    rcases hf with ⟨s', rfl, hf⟩ | rfl
    · exact ih s' hf
    · exact hK
set_option maxRecDepth 100000 in
set_option maxHeartbeats 4000000 in
theorem tl_X7_laws_25 {X : qaX} {l : Launch} {Y : qaY} {fin : Int32 × qaM} (hC : QC X l Y cX7_laws RX7 7 9) (hQ : QRi X Y (some .int) fin.2 fin.1) {m : qaM} {v1 : Int32} {v2 : Int32} {v4 : Int32} {v5 : Int32} {v6 : Int32} {z : (Int32 × qaM)} (hf : lp_X7_laws_25 m v1 v2 v4 v5 v6 = some z) (hK : (qa_eq fin) z) : QG X Y 7 m 25 [(0, .ref (Y.2.2.1 36)), (1, .int v1), (2, .int v2), (4, .int v4), (5, .int v5), (6, .int v6)] [] :=
  tn_X7_laws_25 hC hQ hK qa_F (m, v5, v6) hf
set_option maxRecDepth 100000 in
set_option maxHeartbeats 4000000 in
theorem c_X7_laws (l : Launch) (Y : qaY) (m : qaM) (v1 : Int32) (v2 : Int32) (q : Int32 × qaM) (hf : f_X7_laws m v1 v2 = some q) : qaMi l Y yX7_laws cX7_laws 7 (some .int) 9 [.ref (Y.2.2.1 36), .int v1, .int v2] m q.2 q.1 := by
  refine qa_enti (by decide +kernel) (Nat.le_of_ble_eq_true rfl) fun X hC hQ => ?_
  have hK : qa_eq q q := rfl
  unfold f_X7_laws at hf
  refine qi_aload_n hC 0 rfl rfl dX7_laws_0 ?_
  refine qi_iload_n hC 1 rfl rfl dX7_laws_1 ?_
  refine qi_iload_n hC 2 rfl rfl dX7_laws_2 ?_
  obtain ⟨q1, hq1, hf⟩ := Option.bind_eq_some_iff.mp hf
  refine qi_callVi hC (as := [.int v1, .int v2]) (c_X7_toldWrong _ _ _ _ _ _ hq1) kl_X7_292 sh_36 kc_X7_toldWrong rfl rfl (by decide) (by decide) (Nat.le_of_ble_eq_true rfl) dX7_laws_3 ?_
  refine qi_istore_n hC rfl (by decide) rfl dX7_laws_6 ?_
  refine qi_iload_n hC 0 rfl rfl dX7_laws_7 ?_
  refine qi_if_eq (tgt := 13) hC (by decide) dX7_laws_8 (fun h => ?_) (fun h => ?_)
  · replace hf := qa_if_t h hf
    refine qi_aload_n hC 1 rfl rfl dX7_laws_13 ?_
    refine qi_geti hC kf_X7_103 sh_36 rfl dX7_laws_14 ?_
    obtain ⟨x2, ex2, hf⟩ := qa_lt_e hf
    refine qi_nmi hC ex2 ?_
    refine qi_istore hC (by decide) rfl dX7_laws_17 ?_
    refine qi_iconst hC dX7_laws_19 kn_iconst_0 ?_
    refine qi_istore hC (by decide) rfl dX7_laws_20 ?_
    refine qi_iconst hC dX7_laws_22 kn_iconst_0 ?_
    refine qi_istore hC (by decide) rfl dX7_laws_23 ?_
    refine qi_sub hC [4, 5, 6, 2, 1, 0] rfl ?_
    exact tl_X7_laws_25 hC hQ hf hK
  · replace hf := qa_if_f h hf
    refine qi_iload_n hC 0 rfl rfl dX7_laws_11 ?_
    obtain rfl := Option.some.inj hf
    exact qi_ireti hC hQ hK dX7_laws_12
set_option maxRecDepth 100000 in
set_option maxHeartbeats 4000000 in
theorem t_X7_film_86 {X : qaX} {l : Launch} {Y : qaY} {fin : Int32 × qaM} (hC : QC X l Y cX7_film RX7 4 8) (hQ : QRi X Y (some .int) fin.2 fin.1) {m : qaM} {v1 : Int32} {v3 : Int32} {s1 : Int32} {s2 : Int32} {z : ((qaM × Int32) ⊕ (Int32 × qaM))} (hf : b_X7_film_86 m v1 v3 s1 s2 = some z) (hK : (qa_K (fun s => QG X Y 4 s.1 43 [(0, .ref (Y.2.2.1 36)), (1, .int v1), (3, .int s.2)] []) (qa_eq fin)) z) : QG X Y 4 m 86 [(0, .ref (Y.2.2.1 36)), (1, .int v1), (3, .int v3)] [.int s2, .int s1, .ref (Y.2.2.1 50)] := by
  unfold b_X7_film_86 at hf
  obtain ⟨h8, hf⟩ := qa_ck_e hf
  obtain ⟨m9, em9, hf⟩ := qa_lt_e hf
  refine qi_iast hC rfl em9 sh_50 (qa_in_v h8) dX7_film_86 ?_
  obtain ⟨x10, ex10, hf⟩ := qa_lt_e hf
  refine qi_iinc hC (n := 1) (v := x10) 2 rfl ((congrArg (fun q => v3 + q) kn_iconst_1).trans ex10.symm) (by decide) rfl dX7_film_87 ?_
  refine qi_goto (tgt := 43) hC (by decide) dX7_film_90 ?_
  obtain rfl := Option.some.inj hf
  refine qi_sub hC [1, 2, 0] rfl ?_
  exact hK
set_option maxRecDepth 100000 in
set_option maxHeartbeats 4000000 in
theorem t_X7_film_43 {X : qaX} {l : Launch} {Y : qaY} {fin : Int32 × qaM} (hC : QC X l Y cX7_film RX7 4 8) (hQ : QRi X Y (some .int) fin.2 fin.1) {m : qaM} {v1 : Int32} {v3 : Int32} {z : ((qaM × Int32) ⊕ (Int32 × qaM))} (hf : b_X7_film_43 m v1 v3 = some z) (hK : (qa_K (fun s => QG X Y 4 s.1 43 [(0, .ref (Y.2.2.1 36)), (1, .int v1), (3, .int s.2)] []) (qa_eq fin)) z) : QG X Y 4 m 43 [(0, .ref (Y.2.2.1 36)), (1, .int v1), (3, .int v3)] [] := by
  unfold b_X7_film_43 at hf
  refine qi_iload_n hC 2 rfl rfl dX7_film_43 ?_
  refine qi_bipush hC dX7_film_44 kn_bipush_40 ?_
  refine qi_icmp_ge (tgt := 93) hC (by decide) dX7_film_46 (fun h => ?_) (fun h => ?_)
  · replace hf := qa_if_t h hf
    refine qi_aload_n hC 0 rfl rfl dX7_film_93 ?_
    refine qi_geti hC kf_X7_87 sh_36 rfl dX7_film_94 ?_
    obtain ⟨z, rfl, hg⟩ := qa_inr_e hf; have hf := hg
    obtain rfl := Option.some.inj hf
    exact qi_ireti hC hQ hK dX7_film_97
  · replace hf := qa_if_f h hf
    refine qi_aload_n hC 0 rfl rfl dX7_film_49 ?_
    refine qi_getr hC kf_X7_49 sh_36 rfl dX7_film_50 ?_
    refine qi_bipush hC dX7_film_53 kn_bipush_40 ?_
    refine qi_iload_n hC 1 rfl rfl dX7_film_55 ?_
    refine qi_imul hC dX7_film_56 ?_
    refine qi_iload_n hC 2 rfl rfl dX7_film_57 ?_
    refine qi_iadd hC dX7_film_58 ?_
    refine qi_iload_n hC 2 rfl rfl dX7_film_59 ?_
    refine qi_aload_n hC 0 rfl rfl dX7_film_60 ?_
    refine qi_geti hC kf_X7_87 sh_36 rfl dX7_film_61 ?_
    refine qi_icmp_ge (tgt := 85) hC (by decide) dX7_film_64 (fun h => ?_) (fun h => ?_)
    · replace hf := qa_if_t h hf
      refine qi_iconst hC dX7_film_85 kn_iconst_0 ?_
      exact t_X7_film_86 hC hQ hf hK
    · replace hf := qa_if_f h hf
      refine qi_aload_n hC 0 rfl rfl dX7_film_67 ?_
      refine qi_getr hC kf_X7_76 sh_36 rfl dX7_film_68 ?_
      refine qi_bipush hC dX7_film_71 kn_bipush_6 ?_
      refine qi_iload_n hC 2 rfl rfl dX7_film_73 ?_
      refine qi_iconst hC dX7_film_74 kn_iconst_0 ?_
      refine qi_bipush hC dX7_film_75 kn_bipush_7 ?_
      obtain ⟨q11, hq11, hf⟩ := Option.bind_eq_some_iff.mp hf
      refine qi_callSi hC (as := [.int v3, .int (0 : Int32), .int (7 : Int32)]) (c_X7_within _ _ _ _ _ _ _ hq11) kl_X7_173 kc_X7_within rfl rfl (by decide) (by decide) (Nat.le_of_ble_eq_true rfl) dX7_film_77 ?_
      refine qi_imul hC dX7_film_80 ?_
      obtain ⟨h12, hf⟩ := qa_ck_e hf
      refine qi_iald hC rfl sh_59 (qa_in_v h12) dX7_film_81 ?_
      refine qi_goto (tgt := 86) hC (by decide) dX7_film_82 ?_
      exact t_X7_film_86 hC hQ hf hK
set_option maxRecDepth 100000 in
set_option maxHeartbeats 4000000 in
theorem tn_X7_film_43 {X : qaX} {l : Launch} {Y : qaY} {fin : Int32 × qaM} (hC : QC X l Y cX7_film RX7 4 8) (hQ : QRi X Y (some .int) fin.2 fin.1) {v1 : Int32} {z : (Int32 × qaM)} (hK : (qa_eq fin) z) : ∀ (n : Nat) (s : qaM × Int32), qa_lp (fun s => b_X7_film_43 s.1 v1 s.2) n s = some z → QG X Y 4 s.1 43 [(0, .ref (Y.2.2.1 36)), (1, .int v1), (3, .int s.2)] [] := by
  intro n
  induction n with
  | zero => intro s hf; cases hf
  | succ n ih =>
    intro s hf
    obtain ⟨y, hy, hf⟩ := qa_lp_e hf
    refine t_X7_film_43 hC hQ hy ?_
    rcases hf with ⟨s', rfl, hf⟩ | rfl
    · exact ih s' hf
    · exact hK
set_option maxRecDepth 100000 in
set_option maxHeartbeats 4000000 in
theorem tl_X7_film_43 {X : qaX} {l : Launch} {Y : qaY} {fin : Int32 × qaM} (hC : QC X l Y cX7_film RX7 4 8) (hQ : QRi X Y (some .int) fin.2 fin.1) {m : qaM} {v1 : Int32} {v3 : Int32} {z : (Int32 × qaM)} (hf : lp_X7_film_43 m v1 v3 = some z) (hK : (qa_eq fin) z) : QG X Y 4 m 43 [(0, .ref (Y.2.2.1 36)), (1, .int v1), (3, .int v3)] [] :=
  tn_X7_film_43 hC hQ hK qa_F (m, v3) hf
set_option maxRecDepth 100000 in
set_option maxHeartbeats 4000000 in
theorem c_X7_film (l : Launch) (Y : qaY) (m : qaM) (v1 : Int32) (v2 : Int32) (q : Int32 × qaM) (hf : f_X7_film m v1 v2 = some q) : qaMi l Y yX7_film cX7_film 4 (some .int) 8 [.ref (Y.2.2.1 36), .int v1, .int v2] m q.2 q.1 := by
  refine qa_enti (by decide +kernel) (Nat.le_of_ble_eq_true rfl) fun X hC hQ => ?_
  have hK : qa_eq q q := rfl
  unfold f_X7_film at hf
  refine qi_iload_n hC 1 rfl rfl dX7_film_0 ?_
  refine qi_iconst hC dX7_film_1 kn_iconst_0 ?_
  refine qi_iconst hC dX7_film_2 kn_iconst_3 ?_
  obtain ⟨q1, hq1, hf⟩ := Option.bind_eq_some_iff.mp hf
  refine qi_callSi hC (as := [.int v1, .int (0 : Int32), .int (3 : Int32)]) (c_X7_in _ _ _ _ _ _ _ hq1) kl_X7_90 kc_X7_in rfl rfl (by decide) (by decide) (Nat.le_of_ble_eq_true rfl) dX7_film_3 ?_
  refine qi_if_eq (tgt := 16) hC (by decide) dX7_film_6 (fun h => ?_) (fun h => ?_)
  · replace hf := qa_if_t h hf
    refine qi_bipush hC dX7_film_16 kn_bipush_m2 ?_
    obtain rfl := Option.some.inj hf
    exact qi_ireti hC hQ hK dX7_film_18
  · replace hf := qa_if_f h hf
    refine qi_iload_n hC 2 rfl rfl dX7_film_9 ?_
    obtain ⟨q2, hq2, hf⟩ := Option.bind_eq_some_iff.mp hf
    refine qi_callSi hC (as := [.int v2]) (c_X7_areWeeks _ _ _ _ _ hq2) kl_X7_266 kc_X7_areWeeks rfl rfl (by decide) (by decide) (Nat.le_of_ble_eq_true rfl) dX7_film_10 ?_
    refine qi_if_ne (tgt := 19) hC (by decide) dX7_film_13 (fun h => ?_) (fun h => ?_)
    · replace hf := qa_if_f h hf
      refine qi_aload_n hC 0 rfl rfl dX7_film_19 ?_
      refine qi_iload_n hC 2 rfl rfl dX7_film_20 ?_
      obtain ⟨q3, hq3, hf⟩ := Option.bind_eq_some_iff.mp hf
      refine qi_callVv hC (as := [.int v2]) (c_X7_goes _ _ _ _ _ hq3) kl_X7_269 sh_36 kc_X7_goes rfl rfl (by decide) (by decide) (Nat.le_of_ble_eq_true rfl) dX7_film_21 ?_
      refine qi_aload_n hC 0 rfl rfl dX7_film_24 ?_
      refine qi_getr hC kf_X7_43 sh_36 rfl dX7_film_25 ?_
      refine qi_iload_n hC 1 rfl rfl dX7_film_28 ?_
      refine qi_iconst hC dX7_film_29 kn_iconst_1 ?_
      obtain ⟨h4, hf⟩ := qa_ck_e hf
      obtain ⟨m5, em5, hf⟩ := qa_lt_e hf
      refine qi_iast hC rfl em5 sh_48 (qa_in_v h4) dX7_film_30 ?_
      refine qi_aload_n hC 0 rfl rfl dX7_film_31 ?_
      refine qi_getr hC kf_X7_46 sh_36 rfl dX7_film_32 ?_
      refine qi_iload_n hC 1 rfl rfl dX7_film_35 ?_
      refine qi_aload_n hC 0 rfl rfl dX7_film_36 ?_
      refine qi_geti hC kf_X7_87 sh_36 rfl dX7_film_37 ?_
      obtain ⟨h6, hf⟩ := qa_ck_e hf
      obtain ⟨m7, em7, hf⟩ := qa_lt_e hf
      refine qi_iast hC rfl em7 sh_49 (qa_in_v h6) dX7_film_40 ?_
      refine qi_iconst hC dX7_film_41 kn_iconst_0 ?_
      refine qi_istore_n hC rfl (by decide) rfl dX7_film_42 ?_
      refine qi_sub hC [1, 2, 0] rfl ?_
      exact tl_X7_film_43 hC hQ hf hK
    · replace hf := qa_if_t h hf
      refine qi_bipush hC dX7_film_16 kn_bipush_m2 ?_
      obtain rfl := Option.some.inj hf
      exact qi_ireti hC hQ hK dX7_film_18
set_option maxRecDepth 100000 in
set_option maxHeartbeats 4000000 in
theorem t_X7_goesBroken_71 {X : qaX} {l : Launch} {Y : qaY} {fin : qaM} (hC : QC X l Y cX7_goesBroken RX7 7 7) (hQ : QRv X Y fin) {m : qaM} {z : (qaM)} (hf : b_X7_goesBroken_71 m = some z) (hK : (qa_eq fin) z) : QG X Y 7 m 71 [(0, .ref (Y.2.2.1 36))] [] := by
  unfold b_X7_goesBroken_71 at hf
  refine qi_aload_n hC 0 rfl rfl dX7_goesBroken_71 ?_
  obtain ⟨q3, hq3, hf⟩ := Option.bind_eq_some_iff.mp hf
  refine qi_callVv hC (as := []) (c_X7_laysBack _ _ _ _ hq3) kl_X7_263 sh_36 kc_X7_laysBack rfl rfl (by decide) (by decide) (Nat.le_of_ble_eq_true rfl) dX7_goesBroken_72 ?_
  obtain rfl := Option.some.inj hf
  exact qi_vret hC hQ hK dX7_goesBroken_75
set_option maxRecDepth 100000 in
set_option maxHeartbeats 4000000 in
theorem t_X7_goesBroken_62 {X : qaX} {l : Launch} {Y : qaY} {fin : qaM} (hC : QC X l Y cX7_goesBroken RX7 7 7) (hQ : QRv X Y fin) {m : qaM} {v2 : Int32} {v3 : Int32} {v4 : Int64} {v6 : Int32} {s1 : Int32} {s2 : Int32} {s3 : Int32} {z : ((qaM × Int64 × Int32) ⊕ (qaM))} (hf : b_X7_goesBroken_62 m v2 v3 v4 v6 s1 s2 s3 = some z) (hK : (qa_K (fun s => QG X Y 7 s.1 13 [(0, .ref (Y.2.2.1 36)), (2, .int v2), (3, .int v3), (4, .long s.2.1), (6, .int s.2.2)] []) (qa_eq fin)) z) : QG X Y 7 m 62 [(0, .ref (Y.2.2.1 36)), (2, .int v2), (3, .int v3), (4, .long v4), (6, .int v6)] [.int s3, .int s2, .int s1, .ref (Y.2.2.1 36)] := by
  unfold b_X7_goesBroken_62 at hf
  obtain ⟨q5, hq5, hf⟩ := Option.bind_eq_some_iff.mp hf
  refine qi_callVv hC (as := [.int s1, .int s2, .int s3]) (c_X7_weekBy _ _ _ _ _ _ _ hq5) kl_X7_250 sh_36 kc_X7_weekBy rfl rfl (by decide) (by decide) (Nat.le_of_ble_eq_true rfl) dX7_goesBroken_62 ?_
  obtain ⟨x6, ex6, hf⟩ := qa_lt_e hf
  refine qi_iinc hC (n := 1) (v := x6) 4 rfl ((congrArg (fun q => v6 + q) kn_iconst_1).trans ex6.symm) (by decide) rfl dX7_goesBroken_65 ?_
  refine qi_goto (tgt := 13) hC (by decide) dX7_goesBroken_68 ?_
  obtain rfl := Option.some.inj hf
  refine qi_sub hC [1, 2, 3, 4, 0] rfl ?_
  exact hK
set_option maxRecDepth 100000 in
set_option maxHeartbeats 4000000 in
theorem t_X7_goesBroken_13 {X : qaX} {l : Launch} {Y : qaY} {fin : qaM} (hC : QC X l Y cX7_goesBroken RX7 7 7) (hQ : QRv X Y fin) {m : qaM} {v2 : Int32} {v3 : Int32} {v4 : Int64} {v6 : Int32} {z : ((qaM × Int64 × Int32) ⊕ (qaM))} (hf : b_X7_goesBroken_13 m v2 v3 v4 v6 = some z) (hK : (qa_K (fun s => QG X Y 7 s.1 13 [(0, .ref (Y.2.2.1 36)), (2, .int v2), (3, .int v3), (4, .long s.2.1), (6, .int s.2.2)] []) (qa_eq fin)) z) : QG X Y 7 m 13 [(0, .ref (Y.2.2.1 36)), (2, .int v2), (3, .int v3), (4, .long v4), (6, .int v6)] [] := by
  unfold b_X7_goesBroken_13 at hf
  refine qi_iload hC 4 rfl dX7_goesBroken_13 ?_
  refine qi_iload_n hC 1 rfl rfl dX7_goesBroken_15 ?_
  refine qi_icmp_ge (tgt := 71) hC (by decide) dX7_goesBroken_16 (fun h => ?_) (fun h => ?_)
  · replace hf := qa_if_t h hf
    obtain ⟨z, rfl, hg⟩ := qa_inr_e hf; have hf := hg
    refine qi_sub hC [0] rfl ?_
    exact t_X7_goesBroken_71 hC hQ hf hK
  · replace hf := qa_if_f h hf
    refine qi_lload hC 3 rfl dX7_goesBroken_19 ?_
    refine qi_ldc2 hC kk_X7_298 dX7_goesBroken_21 ?_
    refine qi_lmul hC dX7_goesBroken_24 ?_
    refine qi_ldc2 hC kk_X7_300 dX7_goesBroken_25 ?_
    refine qi_lrem hC (by decide) dX7_goesBroken_28 ?_
    obtain ⟨x4, ex4, hf⟩ := qa_lt_e hf
    refine qi_nml hC ex4 ?_
    refine qi_lstore hC (by decide) rfl dX7_goesBroken_29 ?_
    refine qi_aload_n hC 1 rfl rfl dX7_goesBroken_31 ?_
    refine qi_iload hC 4 rfl dX7_goesBroken_32 ?_
    refine qi_aload_n hC 1 rfl rfl dX7_goesBroken_34 ?_
    refine qi_getr hC kf_X7_22 sh_36 rfl dX7_goesBroken_35 ?_
    refine qi_iconst hC dX7_goesBroken_38 kn_iconst_0 ?_
    refine qi_iald hC tn_0 sh_41 vi_0_4 dX7_goesBroken_39 ?_
    refine qi_lload hC 0 rfl dX7_goesBroken_40 ?_
    refine qi_ldc2 hC kk_X7_302 dX7_goesBroken_42 ?_
    refine qi_lrem hC (by decide) dX7_goesBroken_45 ?_
    refine qi_iload_n hC 3 rfl rfl dX7_goesBroken_46 ?_
    refine qi_i2l hC dX7_goesBroken_47 ?_
    refine qi_lcmp hC dX7_goesBroken_48 ?_
    refine qi_if_ge (tgt := 56) hC (by decide) dX7_goesBroken_49 (fun h => ?_) (fun h => ?_)
    · replace hf := qa_if_t h hf
      refine qi_aload_n hC 1 rfl rfl dX7_goesBroken_56 ?_
      refine qi_getr hC kf_X7_22 sh_36 rfl dX7_goesBroken_57 ?_
      refine qi_iconst hC dX7_goesBroken_60 kn_iconst_2 ?_
      refine qi_iald hC tn_2 sh_41 vi_2_4 dX7_goesBroken_61 ?_
      refine qi_sub hC [1, 2, 3, 0, 4] rfl ?_
      exact t_X7_goesBroken_62 hC hQ hf hK
    · replace hf := qa_if_f h hf
      refine qi_iconst hC dX7_goesBroken_52 kn_iconst_0 ?_
      refine qi_goto (tgt := 62) hC (by decide) dX7_goesBroken_53 ?_
      refine qi_sub hC [1, 2, 3, 0, 4] rfl ?_
      exact t_X7_goesBroken_62 hC hQ hf hK
set_option maxRecDepth 100000 in
set_option maxHeartbeats 4000000 in
theorem tn_X7_goesBroken_13 {X : qaX} {l : Launch} {Y : qaY} {fin : qaM} (hC : QC X l Y cX7_goesBroken RX7 7 7) (hQ : QRv X Y fin) {v2 : Int32} {v3 : Int32} {z : (qaM)} (hK : (qa_eq fin) z) : ∀ (n : Nat) (s : qaM × Int64 × Int32), qa_lp (fun s => b_X7_goesBroken_13 s.1 v2 v3 s.2.1 s.2.2) n s = some z → QG X Y 7 s.1 13 [(0, .ref (Y.2.2.1 36)), (2, .int v2), (3, .int v3), (4, .long s.2.1), (6, .int s.2.2)] [] := by
  intro n
  induction n with
  | zero => intro s hf; cases hf
  | succ n ih =>
    intro s hf
    obtain ⟨y, hy, hf⟩ := qa_lp_e hf
    refine t_X7_goesBroken_13 hC hQ hy ?_
    rcases hf with ⟨s', rfl, hf⟩ | rfl
    · exact ih s' hf
    · exact hK
set_option maxRecDepth 100000 in
set_option maxHeartbeats 4000000 in
theorem tl_X7_goesBroken_13 {X : qaX} {l : Launch} {Y : qaY} {fin : qaM} (hC : QC X l Y cX7_goesBroken RX7 7 7) (hQ : QRv X Y fin) {m : qaM} {v2 : Int32} {v3 : Int32} {v4 : Int64} {v6 : Int32} {z : (qaM)} (hf : lp_X7_goesBroken_13 m v2 v3 v4 v6 = some z) (hK : (qa_eq fin) z) : QG X Y 7 m 13 [(0, .ref (Y.2.2.1 36)), (2, .int v2), (3, .int v3), (4, .long v4), (6, .int v6)] [] :=
  tn_X7_goesBroken_13 hC hQ hK qa_F (m, v4, v6) hf
set_option maxRecDepth 100000 in
set_option maxHeartbeats 4000000 in
theorem c_X7_goesBroken (l : Launch) (Y : qaY) (m : qaM) (v1 : Int32) (v2 : Int32) (v3 : Int32) (q : qaM) (hf : f_X7_goesBroken m v1 v2 v3 = some q) : qaMv l Y yX7_goesBroken cX7_goesBroken 7 7 [.ref (Y.2.2.1 36), .int v1, .int v2, .int v3] m q := by
  refine qa_entv (by decide +kernel) (Nat.le_of_ble_eq_true rfl) fun X hC hQ => ?_
  have hK : qa_eq q q := rfl
  unfold f_X7_goesBroken at hf
  refine qi_iload_n hC 1 rfl rfl dX7_goesBroken_0 ?_
  refine qi_i2l hC dX7_goesBroken_1 ?_
  refine qi_lconst hC (v := 1) dX7_goesBroken_2 (by decide) ?_
  refine qi_ladd hC dX7_goesBroken_3 ?_
  obtain ⟨x1, ex1, hf⟩ := qa_lt_e hf
  refine qi_nml hC ex1 ?_
  refine qi_lstore hC (by decide) rfl dX7_goesBroken_4 ?_
  refine qi_aload_n hC 1 rfl rfl dX7_goesBroken_6 ?_
  obtain ⟨q2, hq2, hf⟩ := Option.bind_eq_some_iff.mp hf
  refine qi_callVv hC (as := []) (c_X7_keeps _ _ _ _ hq2) kl_X7_260 sh_36 kc_X7_keeps rfl rfl (by decide) (by decide) (Nat.le_of_ble_eq_true rfl) dX7_goesBroken_7 ?_
  refine qi_iconst hC dX7_goesBroken_10 kn_iconst_0 ?_
  refine qi_istore hC (by decide) rfl dX7_goesBroken_11 ?_
  refine qi_sub hC [2, 4, 5, 1, 0] rfl ?_
  exact tl_X7_goesBroken_13 hC hQ hf hK
set_option maxRecDepth 100000 in
set_option maxHeartbeats 4000000 in
theorem t_X7_wornAll_4 {X : qaX} {l : Launch} {Y : qaY} {fin : Int32} {m : qaM} (hC : QC X l Y cX7_wornAll RX7 3 1) (hQ : QRi X Y (some .int) m fin) {v1 : Int32} {v2 : Int32} {z : ((Int32 × Int32) ⊕ (Int32))} (hf : b_X7_wornAll_4 m v1 v2 = some z) (hK : (qa_K (fun s => QG X Y 3 m 4 [(0, .ref (Y.2.2.1 36)), (1, .int s.1), (2, .int s.2)] []) (qa_eq fin)) z) : QG X Y 3 m 4 [(0, .ref (Y.2.2.1 36)), (1, .int v1), (2, .int v2)] [] := by
  unfold b_X7_wornAll_4 at hf
  refine qi_iload_n hC 2 rfl rfl dX7_wornAll_4 ?_
  refine qi_aload_n hC 0 rfl rfl dX7_wornAll_5 ?_
  refine qi_geti hC kf_X7_87 sh_36 rfl dX7_wornAll_6 ?_
  refine qi_icmp_ge (tgt := 30) hC (by decide) dX7_wornAll_9 (fun h => ?_) (fun h => ?_)
  · replace hf := qa_if_t h hf
    refine qi_iload_n hC 1 rfl rfl dX7_wornAll_30 ?_
    obtain ⟨z, rfl, hg⟩ := qa_inr_e hf; have hf := hg
    obtain rfl := Option.some.inj hf
    exact qi_ireti hC hQ (congrArg (fun w => (w, m)) hK) dX7_wornAll_31
  · replace hf := qa_if_f h hf
    refine qi_iload_n hC 1 rfl rfl dX7_wornAll_12 ?_
    refine qi_aload_n hC 0 rfl rfl dX7_wornAll_13 ?_
    refine qi_getr hC kf_X7_76 sh_36 rfl dX7_wornAll_14 ?_
    refine qi_bipush hC dX7_wornAll_17 kn_bipush_6 ?_
    refine qi_iload_n hC 2 rfl rfl dX7_wornAll_19 ?_
    refine qi_imul hC dX7_wornAll_20 ?_
    obtain ⟨h1, hf⟩ := qa_ck_e hf
    refine qi_iald hC rfl sh_59 (qa_in_v h1) dX7_wornAll_21 ?_
    refine qi_iadd hC dX7_wornAll_22 ?_
    obtain ⟨x2, ex2, hf⟩ := qa_lt_e hf
    refine qi_nmi hC ex2 ?_
    refine qi_istore_n hC rfl (by decide) rfl dX7_wornAll_23 ?_
    obtain ⟨x3, ex3, hf⟩ := qa_lt_e hf
    refine qi_iinc hC (n := 1) (v := x3) 2 rfl ((congrArg (fun q => v2 + q) kn_iconst_1).trans ex3.symm) (by decide) rfl dX7_wornAll_24 ?_
    refine qi_goto (tgt := 4) hC (by decide) dX7_wornAll_27 ?_
    obtain rfl := Option.some.inj hf
    refine qi_sub hC [2, 1, 0] rfl ?_
    exact hK
set_option maxRecDepth 100000 in
set_option maxHeartbeats 4000000 in
theorem tn_X7_wornAll_4 {X : qaX} {l : Launch} {Y : qaY} {fin : Int32} {m : qaM} (hC : QC X l Y cX7_wornAll RX7 3 1) (hQ : QRi X Y (some .int) m fin) {z : (Int32)} (hK : (qa_eq fin) z) : ∀ (n : Nat) (s : Int32 × Int32), qa_lp (fun s => b_X7_wornAll_4 m s.1 s.2) n s = some z → QG X Y 3 m 4 [(0, .ref (Y.2.2.1 36)), (1, .int s.1), (2, .int s.2)] [] := by
  intro n
  induction n with
  | zero => intro s hf; cases hf
  | succ n ih =>
    intro s hf
    obtain ⟨y, hy, hf⟩ := qa_lp_e hf
    refine t_X7_wornAll_4 hC hQ hy ?_
    rcases hf with ⟨s', rfl, hf⟩ | rfl
    · exact ih s' hf
    · exact hK
set_option maxRecDepth 100000 in
set_option maxHeartbeats 4000000 in
theorem tl_X7_wornAll_4 {X : qaX} {l : Launch} {Y : qaY} {fin : Int32} {m : qaM} (hC : QC X l Y cX7_wornAll RX7 3 1) (hQ : QRi X Y (some .int) m fin) {v1 : Int32} {v2 : Int32} {z : (Int32)} (hf : lp_X7_wornAll_4 m v1 v2 = some z) (hK : (qa_eq fin) z) : QG X Y 3 m 4 [(0, .ref (Y.2.2.1 36)), (1, .int v1), (2, .int v2)] [] :=
  tn_X7_wornAll_4 hC hQ hK qa_F (v1, v2) hf
set_option maxRecDepth 100000 in
set_option maxHeartbeats 4000000 in
theorem c_X7_wornAll (l : Launch) (Y : qaY) (m : qaM) (q : Int32) (hf : f_X7_wornAll m = some q) : qaMi l Y yX7_wornAll cX7_wornAll 3 (some .int) 1 [.ref (Y.2.2.1 36)] m m q := by
  refine qa_enti (by decide +kernel) (Nat.le_of_ble_eq_true rfl) fun X hC hQ => ?_
  have hK : qa_eq q q := rfl
  unfold f_X7_wornAll at hf
  refine qi_iconst hC dX7_wornAll_0 kn_iconst_0 ?_
  refine qi_istore_n hC rfl (by decide) rfl dX7_wornAll_1 ?_
  refine qi_iconst hC dX7_wornAll_2 kn_iconst_0 ?_
  refine qi_istore_n hC rfl (by decide) rfl dX7_wornAll_3 ?_
  refine qi_sub hC [2, 1, 0] rfl ?_
  exact tl_X7_wornAll_4 hC hQ hf hK
set_option maxRecDepth 100000 in
set_option maxHeartbeats 4000000 in
theorem c_X7_drawn (l : Launch) (Y : qaY) (m : qaM) (v1 : Int32) (v2 : Int32) (v3 : Int32) (q : Int32 × qaM) (hf : f_X7_drawn m v1 v2 v3 = some q) : qaMi l Y yX7_drawn cX7_drawn 5 (some .int) 8 [.ref (Y.2.2.1 36), .int v1, .int v2, .int v3] m q.2 q.1 := by
  refine qa_enti (by decide +kernel) (Nat.le_of_ble_eq_true rfl) fun X hC hQ => ?_
  have hK : qa_eq q q := rfl
  unfold f_X7_drawn at hf
  refine qi_iload_n hC 1 rfl rfl dX7_drawn_0 ?_
  refine qi_iconst hC dX7_drawn_1 kn_iconst_0 ?_
  refine qi_ldcw hC kk_X7_304 dX7_drawn_2 ?_
  obtain ⟨q1, hq1, hf⟩ := Option.bind_eq_some_iff.mp hf
  refine qi_callSi hC (as := [.int v1, .int (0 : Int32), .int (99999 : Int32)]) (c_X7_in _ _ _ _ _ _ _ hq1) kl_X7_90 kc_X7_in rfl rfl (by decide) (by decide) (Nat.le_of_ble_eq_true rfl) dX7_drawn_5 ?_
  refine qi_if_eq (tgt := 37) hC (by decide) dX7_drawn_8 (fun h => ?_) (fun h => ?_)
  · replace hf := qa_if_t h hf
    refine qi_bipush hC dX7_drawn_37 kn_bipush_m2 ?_
    obtain rfl := Option.some.inj hf
    exact qi_ireti hC hQ hK dX7_drawn_39
  · replace hf := qa_if_f h hf
    refine qi_iload_n hC 2 rfl rfl dX7_drawn_11 ?_
    obtain ⟨q2, hq2, hf⟩ := Option.bind_eq_some_iff.mp hf
    refine qi_callSi hC (as := [.int v2]) (c_X7_areWeeks _ _ _ _ _ hq2) kl_X7_266 kc_X7_areWeeks rfl rfl (by decide) (by decide) (Nat.le_of_ble_eq_true rfl) dX7_drawn_12 ?_
    refine qi_if_eq (tgt := 37) hC (by decide) dX7_drawn_15 (fun h => ?_) (fun h => ?_)
    · replace hf := qa_if_t h hf
      refine qi_bipush hC dX7_drawn_37 kn_bipush_m2 ?_
      obtain rfl := Option.some.inj hf
      exact qi_ireti hC hQ hK dX7_drawn_39
    · replace hf := qa_if_f h hf
      refine qi_iload_n hC 3 rfl rfl dX7_drawn_18 ?_
      refine qi_iconst hC dX7_drawn_19 kn_iconst_0 ?_
      refine qi_sipush hC dX7_drawn_20 kn_sipush_1003 ?_
      obtain ⟨q3, hq3, hf⟩ := Option.bind_eq_some_iff.mp hf
      refine qi_callSi hC (as := [.int v3, .int (0 : Int32), .int (1003 : Int32)]) (c_X7_in _ _ _ _ _ _ _ hq3) kl_X7_90 kc_X7_in rfl rfl (by decide) (by decide) (Nat.le_of_ble_eq_true rfl) dX7_drawn_23 ?_
      refine qi_if_eq (tgt := 37) hC (by decide) dX7_drawn_26 (fun h => ?_) (fun h => ?_)
      · replace hf := qa_if_t h hf
        refine qi_bipush hC dX7_drawn_37 kn_bipush_m2 ?_
        obtain rfl := Option.some.inj hf
        exact qi_ireti hC hQ hK dX7_drawn_39
      · replace hf := qa_if_f h hf
        refine qi_iload_n hC 3 rfl rfl dX7_drawn_29 ?_
        refine qi_bipush hC dX7_drawn_30 kn_bipush_10 ?_
        refine qi_irem hC (by decide) dX7_drawn_32 ?_
        refine qi_iconst hC dX7_drawn_33 kn_iconst_3 ?_
        refine qi_icmp_le (tgt := 40) hC (by decide) dX7_drawn_34 (fun h => ?_) (fun h => ?_)
        · replace hf := qa_if_t h hf
          refine qi_aload_n hC 0 rfl rfl dX7_drawn_40 ?_
          refine qi_iload_n hC 1 rfl rfl dX7_drawn_41 ?_
          refine qi_iload_n hC 2 rfl rfl dX7_drawn_42 ?_
          refine qi_iload_n hC 3 rfl rfl dX7_drawn_43 ?_
          refine qi_bipush hC dX7_drawn_44 kn_bipush_10 ?_
          refine qi_idiv hC (by decide) dX7_drawn_46 ?_
          obtain ⟨q4, hq4, hf⟩ := Option.bind_eq_some_iff.mp hf
          refine qi_callVv hC (as := [.int v1, .int v2, .int (v3 / (10 : Int32))]) (c_X7_goesBroken _ _ _ _ _ _ _ hq4) kl_X7_305 sh_36 kc_X7_goesBroken rfl rfl (by decide) (by decide) (Nat.le_of_ble_eq_true rfl) dX7_drawn_47 ?_
          refine qi_iload_n hC 3 rfl rfl dX7_drawn_50 ?_
          refine qi_bipush hC dX7_drawn_51 kn_bipush_10 ?_
          refine qi_irem hC (by decide) dX7_drawn_53 ?_
          obtain ⟨x5, ex5, hf⟩ := qa_lt_e hf
          refine qi_nmi hC ex5 ?_
          refine qi_istore hC (by decide) rfl dX7_drawn_54 ?_
          refine qi_iload hC 0 rfl dX7_drawn_56 ?_
          refine qi_if_ne (tgt := 68) hC (by decide) dX7_drawn_58 (fun h => ?_) (fun h => ?_)
          · replace hf := qa_if_f h hf
            refine qi_iload hC 0 rfl dX7_drawn_68 ?_
            refine qi_iconst hC dX7_drawn_70 kn_iconst_1 ?_
            refine qi_icmp_ne (tgt := 81) hC (by decide) dX7_drawn_71 (fun h => ?_) (fun h => ?_)
            · replace hf := qa_if_f h hf
              refine qi_iload hC 0 rfl dX7_drawn_81 ?_
              refine qi_iconst hC dX7_drawn_83 kn_iconst_2 ?_
              refine qi_icmp_ne (tgt := 105) hC (by decide) dX7_drawn_84 (fun h => ?_) (fun h => ?_)
              · replace hf := qa_if_f h hf
                refine qi_aload_n hC 1 rfl rfl dX7_drawn_105 ?_
                obtain ⟨q6, hq6, hf⟩ := Option.bind_eq_some_iff.mp hf
                refine qi_callVi hC (as := []) (c_X7_wornAll _ _ _ _ hq6) kl_X7_308 sh_36 kc_X7_wornAll rfl rfl (by decide) (by decide) (Nat.le_of_ble_eq_true rfl) dX7_drawn_106 ?_
                obtain rfl := Option.some.inj hf
                exact qi_ireti hC hQ hK dX7_drawn_109
              · replace hf := qa_if_t h hf
                refine qi_iconst hC dX7_drawn_87 kn_iconst_1 ?_
                refine qi_aload_n hC 1 rfl rfl dX7_drawn_88 ?_
                refine qi_geti hC kf_X7_87 sh_36 rfl dX7_drawn_89 ?_
                refine qi_ishl hC dX7_drawn_92 ?_
                refine qi_iconst hC dX7_drawn_93 kn_iconst_1 ?_
                refine qi_isub hC dX7_drawn_94 ?_
                refine qi_aload_n hC 1 rfl rfl dX7_drawn_95 ?_
                refine qi_geti hC kf_X7_235 sh_36 rfl dX7_drawn_96 ?_
                refine qi_iconst hC dX7_drawn_99 kn_iconst_m1 ?_
                refine qi_ixor hC dX7_drawn_100 ?_
                refine qi_iand hC dX7_drawn_101 ?_
                refine qi_goto (tgt := 109) hC (by decide) dX7_drawn_102 ?_
                obtain rfl := Option.some.inj hf
                exact qi_ireti hC hQ hK dX7_drawn_109
            · replace hf := qa_if_t h hf
              refine qi_aload_n hC 1 rfl rfl dX7_drawn_74 ?_
              refine qi_geti hC kf_X7_214 sh_36 rfl dX7_drawn_75 ?_
              refine qi_goto (tgt := 109) hC (by decide) dX7_drawn_78 ?_
              obtain rfl := Option.some.inj hf
              exact qi_ireti hC hQ hK dX7_drawn_109
          · replace hf := qa_if_t h hf
            refine qi_aload_n hC 1 rfl rfl dX7_drawn_61 ?_
            obtain ⟨q7, hq7, hf⟩ := Option.bind_eq_some_iff.mp hf
            refine qi_callVi hC (as := []) (c_X7_leftMany _ _ _ _ hq7) kl_X7_272 sh_36 kc_X7_leftMany rfl rfl (by decide) (by decide) (Nat.le_of_ble_eq_true rfl) dX7_drawn_62 ?_
            refine qi_goto (tgt := 109) hC (by decide) dX7_drawn_65 ?_
            obtain rfl := Option.some.inj hf
            exact qi_ireti hC hQ hK dX7_drawn_109
        · replace hf := qa_if_f h hf
          refine qi_bipush hC dX7_drawn_37 kn_bipush_m2 ?_
          obtain rfl := Option.some.inj hf
          exact qi_ireti hC hQ hK dX7_drawn_39
set_option maxRecDepth 100000 in
set_option maxHeartbeats 4000000 in
theorem t_X7_lowest_41 {X : qaX} {l : Launch} {Y : qaY} {fin : Int64} {m : qaM} (hC : QC X l Y cX7_lowest RX7 11 1) (hQ : QRl X Y (some .long) m fin) {v0 : Int64} {v2 : Int64} {v4 : Int32} {v5 : Int64} {z : (Int64)} (hf : b_X7_lowest_41 m v0 v2 v4 v5 = some z) (hK : (qa_eq fin) z) : QG X Y 11 m 41 [(0, .long v0), (2, .long v2), (4, .int v4), (5, .long v5)] [] := by
  unfold b_X7_lowest_41 at hf
  refine qi_iload hC 2 rfl dX7_lowest_41 ?_
  refine qi_if_ne (tgt := 50) hC (by decide) dX7_lowest_43 (fun h => ?_) (fun h => ?_)
  · replace hf := qa_if_f h hf
    refine qi_lload_n hC 1 rfl rfl dX7_lowest_50 ?_
    refine qi_lload hC 3 rfl dX7_lowest_51 ?_
    obtain ⟨h1, hf⟩ := qa_ck_e hf
    refine qi_ldiv hC (of_decide_eq_true h1) dX7_lowest_53 ?_
    obtain rfl := Option.some.inj hf
    exact qi_lret hC hQ (congrArg (fun w => (w, m)) hK) dX7_lowest_54
  · replace hf := qa_if_t h hf
    refine qi_lload_n hC 0 rfl rfl dX7_lowest_46 ?_
    refine qi_goto (tgt := 51) hC (by decide) dX7_lowest_47 ?_
    refine qi_lload hC 3 rfl dX7_lowest_51 ?_
    obtain ⟨h2, hf⟩ := qa_ck_e hf
    refine qi_ldiv hC (of_decide_eq_true h2) dX7_lowest_53 ?_
    obtain rfl := Option.some.inj hf
    exact qi_lret hC hQ (congrArg (fun w => (w, m)) hK) dX7_lowest_54
set_option maxRecDepth 100000 in
set_option maxHeartbeats 4000000 in
theorem t_X7_lowest_16 {X : qaX} {l : Launch} {Y : qaY} {fin : Int64} {m : qaM} (hC : QC X l Y cX7_lowest RX7 11 1) (hQ : QRl X Y (some .long) m fin) {v0 : Int64} {v2 : Int64} {v4 : Int32} {v5 : Int64} {v7 : Int64} {z : ((Int64 × Int64) ⊕ (Int64))} (hf : b_X7_lowest_16 m v0 v2 v4 v5 v7 = some z) (hK : (qa_K (fun s => QG X Y 11 m 16 [(0, .long v0), (2, .long v2), (4, .int v4), (5, .long s.1), (7, .long s.2)] []) (qa_eq fin)) z) : QG X Y 11 m 16 [(0, .long v0), (2, .long v2), (4, .int v4), (5, .long v5), (7, .long v7)] [] := by
  unfold b_X7_lowest_16 at hf
  refine qi_lload hC 4 rfl dX7_lowest_16 ?_
  refine qi_lconst hC (v := 0) dX7_lowest_18 (by decide) ?_
  refine qi_lcmp hC dX7_lowest_19 ?_
  refine qi_if_eq (tgt := 41) hC (by decide) dX7_lowest_20 (fun h => ?_) (fun h => ?_)
  · replace hf := qa_if_t h hf
    obtain ⟨z, rfl, hg⟩ := qa_inr_e hf; have hf := hg
    refine qi_sub hC [0, 1, 2, 3] rfl ?_
    exact t_X7_lowest_41 hC hQ hf hK
  · replace hf := qa_if_f h hf
    refine qi_lload hC 3 rfl dX7_lowest_23 ?_
    refine qi_lload hC 4 rfl dX7_lowest_25 ?_
    obtain ⟨h3, hf⟩ := qa_ck_e hf
    refine qi_lrem hC (of_decide_eq_true h3) dX7_lowest_27 ?_
    obtain ⟨x4, ex4, hf⟩ := qa_lt_e hf
    refine qi_nml hC ex4 ?_
    refine qi_lstore hC (by decide) rfl dX7_lowest_28 ?_
    refine qi_lload hC 5 rfl dX7_lowest_30 ?_
    refine qi_lstore hC (by decide) rfl dX7_lowest_32 ?_
    refine qi_lload hC 1 rfl dX7_lowest_34 ?_
    refine qi_lstore hC (by decide) rfl dX7_lowest_36 ?_
    refine qi_goto (tgt := 16) hC (by decide) dX7_lowest_38 ?_
    obtain rfl := Option.some.inj hf
    refine qi_sub hC [3, 4, 5, 1, 0] rfl ?_
    exact hK
set_option maxRecDepth 100000 in
set_option maxHeartbeats 4000000 in
theorem tn_X7_lowest_16 {X : qaX} {l : Launch} {Y : qaY} {fin : Int64} {m : qaM} (hC : QC X l Y cX7_lowest RX7 11 1) (hQ : QRl X Y (some .long) m fin) {v0 : Int64} {v2 : Int64} {v4 : Int32} {z : (Int64)} (hK : (qa_eq fin) z) : ∀ (n : Nat) (s : Int64 × Int64), qa_lp (fun s => b_X7_lowest_16 m v0 v2 v4 s.1 s.2) n s = some z → QG X Y 11 m 16 [(0, .long v0), (2, .long v2), (4, .int v4), (5, .long s.1), (7, .long s.2)] [] := by
  intro n
  induction n with
  | zero => intro s hf; cases hf
  | succ n ih =>
    intro s hf
    obtain ⟨y, hy, hf⟩ := qa_lp_e hf
    refine t_X7_lowest_16 hC hQ hy ?_
    rcases hf with ⟨s', rfl, hf⟩ | rfl
    · exact ih s' hf
    · exact hK
set_option maxRecDepth 100000 in
set_option maxHeartbeats 4000000 in
theorem tl_X7_lowest_16 {X : qaX} {l : Launch} {Y : qaY} {fin : Int64} {m : qaM} (hC : QC X l Y cX7_lowest RX7 11 1) (hQ : QRl X Y (some .long) m fin) {v0 : Int64} {v2 : Int64} {v4 : Int32} {v5 : Int64} {v7 : Int64} {z : (Int64)} (hf : lp_X7_lowest_16 m v0 v2 v4 v5 v7 = some z) (hK : (qa_eq fin) z) : QG X Y 11 m 16 [(0, .long v0), (2, .long v2), (4, .int v4), (5, .long v5), (7, .long v7)] [] :=
  tn_X7_lowest_16 hC hQ hK qa_F (v5, v7) hf
set_option maxRecDepth 100000 in
set_option maxHeartbeats 4000000 in
theorem c_X7_lowest (l : Launch) (Y : qaY) (m : qaM) (v0 : Int64) (v2 : Int64) (v4 : Int32) (q : Int64) (hf : f_X7_lowest m v0 v2 v4 = some q) : qaMl l Y yX7_lowest cX7_lowest 11 (some .long) 1 [.long v0, .long v2, .int v4] m m q := by
  refine qa_entl (by decide +kernel) (Nat.le_of_ble_eq_true rfl) fun X hC hQ => ?_
  have hK : qa_eq q q := rfl
  unfold f_X7_lowest at hf
  refine qi_lload_n hC 0 rfl rfl dX7_lowest_0 ?_
  refine qi_lconst hC (v := 0) dX7_lowest_1 (by decide) ?_
  refine qi_lcmp hC dX7_lowest_2 ?_
  refine qi_if_ne (tgt := 10) hC (by decide) dX7_lowest_3 (fun h => ?_) (fun h => ?_)
  · replace hf := qa_if_f h hf
    refine qi_lload_n hC 0 rfl rfl dX7_lowest_10 ?_
    refine qi_lstore hC (by decide) rfl dX7_lowest_11 ?_
    refine qi_lload_n hC 2 rfl rfl dX7_lowest_13 ?_
    refine qi_lstore hC (by decide) rfl dX7_lowest_14 ?_
    refine qi_sub hC [2, 3, 4, 1, 0] rfl ?_
    exact tl_X7_lowest_16 hC hQ hf hK
  · replace hf := qa_if_t h hf
    refine qi_iload hC 2 rfl dX7_lowest_6 ?_
    refine qi_i2l hC dX7_lowest_8 ?_
    obtain rfl := Option.some.inj hf
    exact qi_lret hC hQ (congrArg (fun w => (w, m)) hK) dX7_lowest_9
set_option maxRecDepth 100000 in
set_option maxHeartbeats 4000000 in
theorem t_X7_odds_120 {X : qaX} {l : Launch} {Y : qaY} {fin : Int64 × qaM} (hC : QC X l Y cX7_odds RX7 10 8) (hQ : QRl X Y (some .long) fin.2 fin.1) {m : qaM} {v3 : Int32} {v4 : Int32} {v7 : Int64} {z : (Int64 × qaM)} (hf : b_X7_odds_120 m v3 v4 v7 = some z) (hK : (qa_eq fin) z) : QG X Y 10 m 120 [(3, .int v3), (4, .int v4), (7, .long v7)] [] := by
  unfold b_X7_odds_120 at hf
  refine qi_lload hC 2 rfl dX7_odds_120 ?_
  refine qi_iload_n hC 0 rfl rfl dX7_odds_122 ?_
  refine qi_bipush hC dX7_odds_123 kn_bipush_100 ?_
  refine qi_idiv hC (by decide) dX7_odds_125 ?_
  refine qi_i2l hC dX7_odds_126 ?_
  refine qi_iload hC 1 rfl dX7_odds_127 ?_
  obtain ⟨q5, hq5, hf⟩ := Option.bind_eq_some_iff.mp hf
  refine qi_callSl hC (as := [.long v7, .long ((v3 / (100 : Int32)).toInt64), .int v4]) (c_X7_lowest _ _ _ _ _ _ _ hq5) kl_X7_313 kc_X7_lowest rfl rfl (by decide) (by decide) (Nat.le_of_ble_eq_true rfl) dX7_odds_129 ?_
  obtain rfl := Option.some.inj hf
  exact qi_lret hC hQ hK dX7_odds_132
set_option maxRecDepth 100000 in
set_option maxHeartbeats 4000000 in
theorem t_X7_odds_111 {X : qaX} {l : Launch} {Y : qaY} {fin : Int64 × qaM} (hC : QC X l Y cX7_odds RX7 10 8) (hQ : QRl X Y (some .long) fin.2 fin.1) {m : qaM} {v1 : Int32} {v2 : Int32} {v3 : Int32} {v4 : Int32} {v6 : Int32} {v9 : Int32} {s0 : Int64} {s1 : Int64} {z : ((qaM × Int64 × Int32) ⊕ (Int64 × qaM))} (hf : b_X7_odds_111 m v1 v2 v3 v4 v6 v9 s0 s1 = some z) (hK : (qa_K (fun s => QG X Y 10 s.1 73 [(0, .ref (Y.2.2.1 36)), (1, .int v1), (2, .int v2), (3, .int v3), (4, .int v4), (6, .int v6), (7, .long s.2.1), (9, .int s.2.2)] []) (qa_eq fin)) z) : QG X Y 10 m 111 [(0, .ref (Y.2.2.1 36)), (1, .int v1), (2, .int v2), (3, .int v3), (4, .int v4), (6, .int v6), (9, .int v9)] [.long s1, .long s0] := by
  unfold b_X7_odds_111 at hf
  refine qi_ladd hC dX7_odds_111 ?_
  obtain ⟨x8, ex8, hf⟩ := qa_lt_e hf
  refine qi_nml hC ex8 ?_
  refine qi_lstore hC (by decide) rfl dX7_odds_112 ?_
  obtain ⟨x9, ex9, hf⟩ := qa_lt_e hf
  refine qi_iinc hC (n := 1) (v := x9) 7 rfl ((congrArg (fun q => v9 + q) kn_iconst_1).trans ex9.symm) (by decide) rfl dX7_odds_114 ?_
  refine qi_goto (tgt := 73) hC (by decide) dX7_odds_117 ?_
  obtain rfl := Option.some.inj hf
  refine qi_sub hC [2, 3, 4, 5, 6, 7, 1, 0] rfl ?_
  exact hK
set_option maxRecDepth 100000 in
set_option maxHeartbeats 4000000 in
theorem t_X7_odds_73 {X : qaX} {l : Launch} {Y : qaY} {fin : Int64 × qaM} (hC : QC X l Y cX7_odds RX7 10 8) (hQ : QRl X Y (some .long) fin.2 fin.1) {m : qaM} {v1 : Int32} {v2 : Int32} {v3 : Int32} {v4 : Int32} {v6 : Int32} {v7 : Int64} {v9 : Int32} {z : ((qaM × Int64 × Int32) ⊕ (Int64 × qaM))} (hf : b_X7_odds_73 m v1 v2 v3 v4 v6 v7 v9 = some z) (hK : (qa_K (fun s => QG X Y 10 s.1 73 [(0, .ref (Y.2.2.1 36)), (1, .int v1), (2, .int v2), (3, .int v3), (4, .int v4), (6, .int v6), (7, .long s.2.1), (9, .int s.2.2)] []) (qa_eq fin)) z) : QG X Y 10 m 73 [(0, .ref (Y.2.2.1 36)), (1, .int v1), (2, .int v2), (3, .int v3), (4, .int v4), (6, .int v6), (7, .long v7), (9, .int v9)] [] := by
  unfold b_X7_odds_73 at hf
  refine qi_iload hC 7 rfl dX7_odds_73 ?_
  refine qi_iload_n hC 3 rfl rfl dX7_odds_75 ?_
  refine qi_bipush hC dX7_odds_76 kn_bipush_100 ?_
  refine qi_idiv hC (by decide) dX7_odds_78 ?_
  refine qi_icmp_ge (tgt := 120) hC (by decide) dX7_odds_79 (fun h => ?_) (fun h => ?_)
  · replace hf := qa_if_t h hf
    obtain ⟨z, rfl, hg⟩ := qa_inr_e hf; have hf := hg
    refine qi_sub hC [3, 4, 6] rfl ?_
    exact t_X7_odds_120 hC hQ hf hK
  · replace hf := qa_if_f h hf
    refine qi_aload_n hC 0 rfl rfl dX7_odds_82 ?_
    refine qi_iload_n hC 1 rfl rfl dX7_odds_83 ?_
    refine qi_iload hC 7 rfl dX7_odds_84 ?_
    refine qi_iadd hC dX7_odds_86 ?_
    refine qi_iload_n hC 2 rfl rfl dX7_odds_87 ?_
    refine qi_iload_n hC 3 rfl rfl dX7_odds_88 ?_
    refine qi_bipush hC dX7_odds_89 kn_bipush_100 ?_
    refine qi_irem hC (by decide) dX7_odds_91 ?_
    obtain ⟨q6, hq6, hf⟩ := Option.bind_eq_some_iff.mp hf
    refine qi_callVv hC (as := [.int (v1 + v9), .int v2, .int (v3 - v3 / (100 : Int32) * (100 : Int32))]) (c_X7_goesBroken _ _ _ _ _ _ _ hq6) kl_X7_305 sh_36 kc_X7_goesBroken rfl rfl (by decide) (by decide) (Nat.le_of_ble_eq_true rfl) dX7_odds_92 ?_
    refine qi_lload hC 6 rfl dX7_odds_95 ?_
    refine qi_aload_n hC 0 rfl rfl dX7_odds_97 ?_
    obtain ⟨q7, hq7, hf⟩ := Option.bind_eq_some_iff.mp hf
    refine qi_callVi hC (as := []) (c_X7_leftMany _ _ _ _ hq7) kl_X7_272 sh_36 kc_X7_leftMany rfl rfl (by decide) (by decide) (Nat.le_of_ble_eq_true rfl) dX7_odds_98 ?_
    refine qi_iload hC 5 rfl dX7_odds_101 ?_
    refine qi_icmp_lt (tgt := 110) hC (by decide) dX7_odds_103 (fun h => ?_) (fun h => ?_)
    · replace hf := qa_if_t h hf
      refine qi_lconst hC (v := 0) dX7_odds_110 (by decide) ?_
      refine qi_sub hC [0, 1, 2, 3, 4, 5, 7] rfl ?_
      exact t_X7_odds_111 hC hQ hf hK
    · replace hf := qa_if_f h hf
      refine qi_lconst hC (v := 1) dX7_odds_106 (by decide) ?_
      refine qi_goto (tgt := 111) hC (by decide) dX7_odds_107 ?_
      refine qi_sub hC [0, 1, 2, 3, 4, 5, 7] rfl ?_
      exact t_X7_odds_111 hC hQ hf hK
set_option maxRecDepth 100000 in
set_option maxHeartbeats 4000000 in
theorem tn_X7_odds_73 {X : qaX} {l : Launch} {Y : qaY} {fin : Int64 × qaM} (hC : QC X l Y cX7_odds RX7 10 8) (hQ : QRl X Y (some .long) fin.2 fin.1) {v1 : Int32} {v2 : Int32} {v3 : Int32} {v4 : Int32} {v6 : Int32} {z : (Int64 × qaM)} (hK : (qa_eq fin) z) : ∀ (n : Nat) (s : qaM × Int64 × Int32), qa_lp (fun s => b_X7_odds_73 s.1 v1 v2 v3 v4 v6 s.2.1 s.2.2) n s = some z → QG X Y 10 s.1 73 [(0, .ref (Y.2.2.1 36)), (1, .int v1), (2, .int v2), (3, .int v3), (4, .int v4), (6, .int v6), (7, .long s.2.1), (9, .int s.2.2)] [] := by
  intro n
  induction n with
  | zero => intro s hf; cases hf
  | succ n ih =>
    intro s hf
    obtain ⟨y, hy, hf⟩ := qa_lp_e hf
    refine t_X7_odds_73 hC hQ hy ?_
    rcases hf with ⟨s', rfl, hf⟩ | rfl
    · exact ih s' hf
    · exact hK
set_option maxRecDepth 100000 in
set_option maxHeartbeats 4000000 in
theorem tl_X7_odds_73 {X : qaX} {l : Launch} {Y : qaY} {fin : Int64 × qaM} (hC : QC X l Y cX7_odds RX7 10 8) (hQ : QRl X Y (some .long) fin.2 fin.1) {m : qaM} {v1 : Int32} {v2 : Int32} {v3 : Int32} {v4 : Int32} {v6 : Int32} {v7 : Int64} {v9 : Int32} {z : (Int64 × qaM)} (hf : lp_X7_odds_73 m v1 v2 v3 v4 v6 v7 v9 = some z) (hK : (qa_eq fin) z) : QG X Y 10 m 73 [(0, .ref (Y.2.2.1 36)), (1, .int v1), (2, .int v2), (3, .int v3), (4, .int v4), (6, .int v6), (7, .long v7), (9, .int v9)] [] :=
  tn_X7_odds_73 hC hQ hK qa_F (m, v7, v9) hf
set_option maxRecDepth 100000 in
set_option maxHeartbeats 4000000 in
theorem t_X7_odds_45 {X : qaX} {l : Launch} {Y : qaY} {fin : Int64 × qaM} (hC : QC X l Y cX7_odds RX7 10 8) (hQ : QRl X Y (some .long) fin.2 fin.1) {m : qaM} {v1 : Int32} {v2 : Int32} {v3 : Int32} {v4 : Int32} {s0 : Int32} {z : (Int64 × qaM)} (hf : b_X7_odds_45 m v1 v2 v3 v4 s0 = some z) (hK : (qa_eq fin) z) : QG X Y 10 m 45 [(0, .ref (Y.2.2.1 36)), (1, .int v1), (2, .int v2), (3, .int v3), (4, .int v4)] [.int s0] := by
  unfold b_X7_odds_45 at hf
  refine qi_istore hC (by decide) rfl dX7_odds_45 ?_
  refine qi_iload hC 0 rfl dX7_odds_47 ?_
  refine qi_if_ne (tgt := 56) hC (by decide) dX7_odds_49 (fun h => ?_) (fun h => ?_)
  · replace hf := qa_if_f h hf
    refine qi_aload_n hC 1 rfl rfl dX7_odds_56 ?_
    refine qi_iload_n hC 3 rfl rfl dX7_odds_57 ?_
    obtain ⟨q2, hq2, hf⟩ := Option.bind_eq_some_iff.mp hf
    refine qi_callVv hC (as := [.int v2]) (c_X7_goes _ _ _ _ _ hq2) kl_X7_269 sh_36 kc_X7_goes rfl rfl (by decide) (by decide) (Nat.le_of_ble_eq_true rfl) dX7_odds_58 ?_
    refine qi_aload_n hC 1 rfl rfl dX7_odds_61 ?_
    obtain ⟨q3, hq3, hf⟩ := Option.bind_eq_some_iff.mp hf
    refine qi_callVi hC (as := []) (c_X7_leftMany _ _ _ _ hq3) kl_X7_272 sh_36 kc_X7_leftMany rfl rfl (by decide) (by decide) (Nat.le_of_ble_eq_true rfl) dX7_odds_62 ?_
    refine qi_istore hC (by decide) rfl dX7_odds_65 ?_
    refine qi_lconst hC (v := 0) dX7_odds_67 (by decide) ?_
    obtain ⟨x4, ex4, hf⟩ := qa_lt_e hf
    refine qi_nml hC ex4 ?_
    refine qi_lstore hC (by decide) rfl dX7_odds_68 ?_
    refine qi_iconst hC dX7_odds_70 kn_iconst_0 ?_
    refine qi_istore hC (by decide) rfl dX7_odds_71 ?_
    refine qi_sub hC [4, 5, 6, 7, 8, 2, 1, 0] rfl ?_
    exact tl_X7_odds_73 hC hQ hf hK
  · replace hf := qa_if_t h hf
    refine qi_ldc2 hC kk_X7_311 dX7_odds_52 ?_
    obtain rfl := Option.some.inj hf
    exact qi_lret hC hQ hK dX7_odds_55
set_option maxRecDepth 100000 in
set_option maxHeartbeats 4000000 in
theorem t_X7_odds_44 {X : qaX} {l : Launch} {Y : qaY} {fin : Int64 × qaM} (hC : QC X l Y cX7_odds RX7 10 8) (hQ : QRl X Y (some .long) fin.2 fin.1) {m : qaM} {v1 : Int32} {v2 : Int32} {v3 : Int32} {v4 : Int32} {z : (Int64 × qaM)} (hf : b_X7_odds_44 m v1 v2 v3 v4 = some z) (hK : (qa_eq fin) z) : QG X Y 10 m 44 [(0, .ref (Y.2.2.1 36)), (1, .int v1), (2, .int v2), (3, .int v3), (4, .int v4)] [] := by
  unfold b_X7_odds_44 at hf
  refine qi_iconst hC dX7_odds_44 kn_iconst_0 ?_
  exact t_X7_odds_45 hC hQ hf hK
set_option maxRecDepth 100000 in
set_option maxHeartbeats 4000000 in
theorem c_X7_odds (l : Launch) (Y : qaY) (m : qaM) (v1 : Int32) (v2 : Int32) (v3 : Int32) (v4 : Int32) (q : Int64 × qaM) (hf : f_X7_odds m v1 v2 v3 v4 = some q) : qaMl l Y yX7_odds cX7_odds 10 (some .long) 8 [.ref (Y.2.2.1 36), .int v1, .int v2, .int v3, .int v4] m q.2 q.1 := by
  refine qa_entl (by decide +kernel) (Nat.le_of_ble_eq_true rfl) fun X hC hQ => ?_
  have hK : qa_eq q q := rfl
  unfold f_X7_odds at hf
  refine qi_iload_n hC 1 rfl rfl dX7_odds_0 ?_
  refine qi_iconst hC dX7_odds_1 kn_iconst_0 ?_
  refine qi_ldcw hC kk_X7_304 dX7_odds_2 ?_
  obtain ⟨q1, hq1, hf⟩ := Option.bind_eq_some_iff.mp hf
  refine qi_callSi hC (as := [.int v1, .int (0 : Int32), .int (99999 : Int32)]) (c_X7_in _ _ _ _ _ _ _ hq1) kl_X7_90 kc_X7_in rfl rfl (by decide) (by decide) (Nat.le_of_ble_eq_true rfl) dX7_odds_5 ?_
  refine qi_if_eq (tgt := 44) hC (by decide) dX7_odds_8 (fun h => ?_) (fun h => ?_)
  · replace hf := qa_if_t h hf
    exact t_X7_odds_44 hC hQ hf hK
  · replace hf := qa_if_f h hf
    refine qi_iload_n hC 2 rfl rfl dX7_odds_11 ?_
    obtain ⟨q10, hq10, hf⟩ := Option.bind_eq_some_iff.mp hf
    refine qi_callSi hC (as := [.int v2]) (c_X7_areWeeks _ _ _ _ _ hq10) kl_X7_266 kc_X7_areWeeks rfl rfl (by decide) (by decide) (Nat.le_of_ble_eq_true rfl) dX7_odds_12 ?_
    refine qi_if_eq (tgt := 44) hC (by decide) dX7_odds_15 (fun h => ?_) (fun h => ?_)
    · replace hf := qa_if_t h hf
      exact t_X7_odds_44 hC hQ hf hK
    · replace hf := qa_if_f h hf
      refine qi_iload_n hC 3 rfl rfl dX7_odds_18 ?_
      refine qi_bipush hC dX7_odds_19 kn_bipush_100 ?_
      refine qi_sipush hC dX7_odds_21 kn_sipush_3099 ?_
      obtain ⟨q11, hq11, hf⟩ := Option.bind_eq_some_iff.mp hf
      refine qi_callSi hC (as := [.int v3, .int (100 : Int32), .int (3099 : Int32)]) (c_X7_in _ _ _ _ _ _ _ hq11) kl_X7_90 kc_X7_in rfl rfl (by decide) (by decide) (Nat.le_of_ble_eq_true rfl) dX7_odds_24 ?_
      refine qi_if_eq (tgt := 44) hC (by decide) dX7_odds_27 (fun h => ?_) (fun h => ?_)
      · replace hf := qa_if_t h hf
        exact t_X7_odds_44 hC hQ hf hK
      · replace hf := qa_if_f h hf
        refine qi_iload hC 4 rfl dX7_odds_30 ?_
        refine qi_iconst hC dX7_odds_32 kn_iconst_0 ?_
        refine qi_iconst hC dX7_odds_33 kn_iconst_1 ?_
        obtain ⟨q12, hq12, hf⟩ := Option.bind_eq_some_iff.mp hf
        refine qi_callSi hC (as := [.int v4, .int (0 : Int32), .int (1 : Int32)]) (c_X7_in _ _ _ _ _ _ _ hq12) kl_X7_90 kc_X7_in rfl rfl (by decide) (by decide) (Nat.le_of_ble_eq_true rfl) dX7_odds_34 ?_
        refine qi_if_eq (tgt := 44) hC (by decide) dX7_odds_37 (fun h => ?_) (fun h => ?_)
        · replace hf := qa_if_t h hf
          exact t_X7_odds_44 hC hQ hf hK
        · replace hf := qa_if_f h hf
          refine qi_iconst hC dX7_odds_40 kn_iconst_1 ?_
          refine qi_goto (tgt := 45) hC (by decide) dX7_odds_41 ?_
          exact t_X7_odds_45 hC hQ hf hK
set_option maxRecDepth 100000 in
set_option maxHeartbeats 4000000 in
theorem t_X7_image_91 {X : qaX} {l : Launch} {Y : qaY} {fin : Int32 × qaM} (hC : QC X l Y cX7_image RX7 2 1) (hQ : QRi X Y (some .int) fin.2 fin.1) {m : qaM} {v1 : Int32} {z : ((qaM × Int32) ⊕ (Int32 × qaM))} (hf : b_X7_image_91 m v1 = some z) (hK : (qa_K (fun s => QG X Y 2 s.1 91 [(0, .ref (Y.2.2.1 36)), (1, .int s.2)] []) (qa_eq fin)) z) : QG X Y 2 m 91 [(0, .ref (Y.2.2.1 36)), (1, .int v1)] [] := by
  unfold b_X7_image_91 at hf
  refine qi_iload_n hC 1 rfl rfl dX7_image_91 ?_
  refine qi_iconst hC dX7_image_92 kn_iconst_4 ?_
  refine qi_icmp_ge (tgt := 114) hC (by decide) dX7_image_93 (fun h => ?_) (fun h => ?_)
  · replace hf := qa_if_t h hf
    refine qi_aload_n hC 0 rfl rfl dX7_image_114 ?_
    refine qi_geti hC kf_X7_87 sh_36 rfl dX7_image_115 ?_
    obtain ⟨z, rfl, hg⟩ := qa_inr_e hf; have hf := hg
    obtain rfl := Option.some.inj hf
    exact qi_ireti hC hQ hK dX7_image_118
  · replace hf := qa_if_f h hf
    refine qi_aload_n hC 0 rfl rfl dX7_image_96 ?_
    refine qi_getr hC kf_X7_40 sh_36 rfl dX7_image_97 ?_
    refine qi_iload_n hC 1 rfl rfl dX7_image_100 ?_
    refine qi_aload_n hC 0 rfl rfl dX7_image_101 ?_
    refine qi_getr hC kf_X7_22 sh_36 rfl dX7_image_102 ?_
    refine qi_iload_n hC 1 rfl rfl dX7_image_105 ?_
    obtain ⟨h6, hf⟩ := qa_ck_e hf
    refine qi_iald hC rfl sh_41 (qa_in_v h6) dX7_image_106 ?_
    obtain ⟨h7, hf⟩ := qa_ck_e hf
    obtain ⟨m8, em8, hf⟩ := qa_lt_e hf
    refine qi_iast hC rfl em8 sh_47 (qa_in_v h7) dX7_image_107 ?_
    obtain ⟨x9, ex9, hf⟩ := qa_lt_e hf
    refine qi_iinc hC (n := 1) (v := x9) 1 rfl ((congrArg (fun q => v1 + q) kn_iconst_1).trans ex9.symm) (by decide) rfl dX7_image_108 ?_
    refine qi_goto (tgt := 91) hC (by decide) dX7_image_111 ?_
    obtain rfl := Option.some.inj hf
    refine qi_sub hC [1, 0] rfl ?_
    exact hK
set_option maxRecDepth 100000 in
set_option maxHeartbeats 4000000 in
theorem tn_X7_image_91 {X : qaX} {l : Launch} {Y : qaY} {fin : Int32 × qaM} (hC : QC X l Y cX7_image RX7 2 1) (hQ : QRi X Y (some .int) fin.2 fin.1) {z : (Int32 × qaM)} (hK : (qa_eq fin) z) : ∀ (n : Nat) (s : qaM × Int32), qa_lp (fun s => b_X7_image_91 s.1 s.2) n s = some z → QG X Y 2 s.1 91 [(0, .ref (Y.2.2.1 36)), (1, .int s.2)] [] := by
  intro n
  induction n with
  | zero => intro s hf; cases hf
  | succ n ih =>
    intro s hf
    obtain ⟨y, hy, hf⟩ := qa_lp_e hf
    refine t_X7_image_91 hC hQ hy ?_
    rcases hf with ⟨s', rfl, hf⟩ | rfl
    · exact ih s' hf
    · exact hK
set_option maxRecDepth 100000 in
set_option maxHeartbeats 4000000 in
theorem tl_X7_image_91 {X : qaX} {l : Launch} {Y : qaY} {fin : Int32 × qaM} (hC : QC X l Y cX7_image RX7 2 1) (hQ : QRi X Y (some .int) fin.2 fin.1) {m : qaM} {v1 : Int32} {z : (Int32 × qaM)} (hf : lp_X7_image_91 m v1 = some z) (hK : (qa_eq fin) z) : QG X Y 2 m 91 [(0, .ref (Y.2.2.1 36)), (1, .int v1)] [] :=
  tn_X7_image_91 hC hQ hK qa_F (m, v1) hf
set_option maxRecDepth 100000 in
set_option maxHeartbeats 4000000 in
theorem t_X7_image_89 {X : qaX} {l : Launch} {Y : qaY} {fin : Int32 × qaM} (hC : QC X l Y cX7_image RX7 2 1) (hQ : QRi X Y (some .int) fin.2 fin.1) {m : qaM} {z : (Int32 × qaM)} (hf : b_X7_image_89 m = some z) (hK : (qa_eq fin) z) : QG X Y 2 m 89 [(0, .ref (Y.2.2.1 36))] [] := by
  unfold b_X7_image_89 at hf
  refine qi_iconst hC dX7_image_89 kn_iconst_0 ?_
  refine qi_istore_n hC rfl (by decide) rfl dX7_image_90 ?_
  refine qi_sub hC [1, 0] rfl ?_
  exact tl_X7_image_91 hC hQ hf hK
set_option maxRecDepth 100000 in
set_option maxHeartbeats 4000000 in
theorem t_X7_image_65 {X : qaX} {l : Launch} {Y : qaY} {fin : Int32 × qaM} (hC : QC X l Y cX7_image RX7 2 1) (hQ : QRi X Y (some .int) fin.2 fin.1) {m : qaM} {v1 : Int32} {z : ((qaM × Int32) ⊕ (Int32 × qaM))} (hf : b_X7_image_65 m v1 = some z) (hK : (qa_K (fun s => QG X Y 2 s.1 65 [(0, .ref (Y.2.2.1 36)), (1, .int s.2)] []) (qa_eq fin)) z) : QG X Y 2 m 65 [(0, .ref (Y.2.2.1 36)), (1, .int v1)] [] := by
  unfold b_X7_image_65 at hf
  refine qi_iload_n hC 1 rfl rfl dX7_image_65 ?_
  refine qi_bipush hC dX7_image_66 kn_bipush_9 ?_
  refine qi_icmp_ge (tgt := 89) hC (by decide) dX7_image_68 (fun h => ?_) (fun h => ?_)
  · replace hf := qa_if_t h hf
    obtain ⟨z, rfl, hg⟩ := qa_inr_e hf; have hf := hg
    refine qi_sub hC [0] rfl ?_
    exact t_X7_image_89 hC hQ hf hK
  · replace hf := qa_if_f h hf
    refine qi_aload_n hC 0 rfl rfl dX7_image_71 ?_
    refine qi_getr hC kf_X7_37 sh_36 rfl dX7_image_72 ?_
    refine qi_iload_n hC 1 rfl rfl dX7_image_75 ?_
    refine qi_aload_n hC 0 rfl rfl dX7_image_76 ?_
    refine qi_getr hC kf_X7_19 sh_36 rfl dX7_image_77 ?_
    refine qi_iload_n hC 1 rfl rfl dX7_image_80 ?_
    obtain ⟨h10, hf⟩ := qa_ck_e hf
    refine qi_iald hC rfl sh_40 (qa_in_v h10) dX7_image_81 ?_
    obtain ⟨h11, hf⟩ := qa_ck_e hf
    obtain ⟨m12, em12, hf⟩ := qa_lt_e hf
    refine qi_iast hC rfl em12 sh_46 (qa_in_v h11) dX7_image_82 ?_
    obtain ⟨x13, ex13, hf⟩ := qa_lt_e hf
    refine qi_iinc hC (n := 1) (v := x13) 1 rfl ((congrArg (fun q => v1 + q) kn_iconst_1).trans ex13.symm) (by decide) rfl dX7_image_83 ?_
    refine qi_goto (tgt := 65) hC (by decide) dX7_image_86 ?_
    obtain rfl := Option.some.inj hf
    refine qi_sub hC [1, 0] rfl ?_
    exact hK
set_option maxRecDepth 100000 in
set_option maxHeartbeats 4000000 in
theorem tn_X7_image_65 {X : qaX} {l : Launch} {Y : qaY} {fin : Int32 × qaM} (hC : QC X l Y cX7_image RX7 2 1) (hQ : QRi X Y (some .int) fin.2 fin.1) {z : (Int32 × qaM)} (hK : (qa_eq fin) z) : ∀ (n : Nat) (s : qaM × Int32), qa_lp (fun s => b_X7_image_65 s.1 s.2) n s = some z → QG X Y 2 s.1 65 [(0, .ref (Y.2.2.1 36)), (1, .int s.2)] [] := by
  intro n
  induction n with
  | zero => intro s hf; cases hf
  | succ n ih =>
    intro s hf
    obtain ⟨y, hy, hf⟩ := qa_lp_e hf
    refine t_X7_image_65 hC hQ hy ?_
    rcases hf with ⟨s', rfl, hf⟩ | rfl
    · exact ih s' hf
    · exact hK
set_option maxRecDepth 100000 in
set_option maxHeartbeats 4000000 in
theorem tl_X7_image_65 {X : qaX} {l : Launch} {Y : qaY} {fin : Int32 × qaM} (hC : QC X l Y cX7_image RX7 2 1) (hQ : QRi X Y (some .int) fin.2 fin.1) {m : qaM} {v1 : Int32} {z : (Int32 × qaM)} (hf : lp_X7_image_65 m v1 = some z) (hK : (qa_eq fin) z) : QG X Y 2 m 65 [(0, .ref (Y.2.2.1 36)), (1, .int v1)] [] :=
  tn_X7_image_65 hC hQ hK qa_F (m, v1) hf
set_option maxRecDepth 100000 in
set_option maxHeartbeats 4000000 in
theorem t_X7_image_63 {X : qaX} {l : Launch} {Y : qaY} {fin : Int32 × qaM} (hC : QC X l Y cX7_image RX7 2 1) (hQ : QRi X Y (some .int) fin.2 fin.1) {m : qaM} {z : (Int32 × qaM)} (hf : b_X7_image_63 m = some z) (hK : (qa_eq fin) z) : QG X Y 2 m 63 [(0, .ref (Y.2.2.1 36))] [] := by
  unfold b_X7_image_63 at hf
  refine qi_iconst hC dX7_image_63 kn_iconst_0 ?_
  refine qi_istore_n hC rfl (by decide) rfl dX7_image_64 ?_
  refine qi_sub hC [1, 0] rfl ?_
  exact tl_X7_image_65 hC hQ hf hK
set_option maxRecDepth 100000 in
set_option maxHeartbeats 4000000 in
theorem t_X7_image_39 {X : qaX} {l : Launch} {Y : qaY} {fin : Int32 × qaM} (hC : QC X l Y cX7_image RX7 2 1) (hQ : QRi X Y (some .int) fin.2 fin.1) {m : qaM} {v1 : Int32} {z : ((qaM × Int32) ⊕ (Int32 × qaM))} (hf : b_X7_image_39 m v1 = some z) (hK : (qa_K (fun s => QG X Y 2 s.1 39 [(0, .ref (Y.2.2.1 36)), (1, .int s.2)] []) (qa_eq fin)) z) : QG X Y 2 m 39 [(0, .ref (Y.2.2.1 36)), (1, .int v1)] [] := by
  unfold b_X7_image_39 at hf
  refine qi_iload_n hC 1 rfl rfl dX7_image_39 ?_
  refine qi_bipush hC dX7_image_40 kn_bipush_48 ?_
  refine qi_icmp_ge (tgt := 63) hC (by decide) dX7_image_42 (fun h => ?_) (fun h => ?_)
  · replace hf := qa_if_t h hf
    obtain ⟨z, rfl, hg⟩ := qa_inr_e hf; have hf := hg
    refine qi_sub hC [0] rfl ?_
    exact t_X7_image_63 hC hQ hf hK
  · replace hf := qa_if_f h hf
    refine qi_aload_n hC 0 rfl rfl dX7_image_45 ?_
    refine qi_getr hC kf_X7_34 sh_36 rfl dX7_image_46 ?_
    refine qi_iload_n hC 1 rfl rfl dX7_image_49 ?_
    refine qi_aload_n hC 0 rfl rfl dX7_image_50 ?_
    refine qi_getr hC kf_X7_16 sh_36 rfl dX7_image_51 ?_
    refine qi_iload_n hC 1 rfl rfl dX7_image_54 ?_
    obtain ⟨h14, hf⟩ := qa_ck_e hf
    refine qi_iald hC rfl sh_39 (qa_in_v h14) dX7_image_55 ?_
    obtain ⟨h15, hf⟩ := qa_ck_e hf
    obtain ⟨m16, em16, hf⟩ := qa_lt_e hf
    refine qi_iast hC rfl em16 sh_45 (qa_in_v h15) dX7_image_56 ?_
    obtain ⟨x17, ex17, hf⟩ := qa_lt_e hf
    refine qi_iinc hC (n := 1) (v := x17) 1 rfl ((congrArg (fun q => v1 + q) kn_iconst_1).trans ex17.symm) (by decide) rfl dX7_image_57 ?_
    refine qi_goto (tgt := 39) hC (by decide) dX7_image_60 ?_
    obtain rfl := Option.some.inj hf
    refine qi_sub hC [1, 0] rfl ?_
    exact hK
set_option maxRecDepth 100000 in
set_option maxHeartbeats 4000000 in
theorem tn_X7_image_39 {X : qaX} {l : Launch} {Y : qaY} {fin : Int32 × qaM} (hC : QC X l Y cX7_image RX7 2 1) (hQ : QRi X Y (some .int) fin.2 fin.1) {z : (Int32 × qaM)} (hK : (qa_eq fin) z) : ∀ (n : Nat) (s : qaM × Int32), qa_lp (fun s => b_X7_image_39 s.1 s.2) n s = some z → QG X Y 2 s.1 39 [(0, .ref (Y.2.2.1 36)), (1, .int s.2)] [] := by
  intro n
  induction n with
  | zero => intro s hf; cases hf
  | succ n ih =>
    intro s hf
    obtain ⟨y, hy, hf⟩ := qa_lp_e hf
    refine t_X7_image_39 hC hQ hy ?_
    rcases hf with ⟨s', rfl, hf⟩ | rfl
    · exact ih s' hf
    · exact hK
set_option maxRecDepth 100000 in
set_option maxHeartbeats 4000000 in
theorem tl_X7_image_39 {X : qaX} {l : Launch} {Y : qaY} {fin : Int32 × qaM} (hC : QC X l Y cX7_image RX7 2 1) (hQ : QRi X Y (some .int) fin.2 fin.1) {m : qaM} {v1 : Int32} {z : (Int32 × qaM)} (hf : lp_X7_image_39 m v1 = some z) (hK : (qa_eq fin) z) : QG X Y 2 m 39 [(0, .ref (Y.2.2.1 36)), (1, .int v1)] [] :=
  tn_X7_image_39 hC hQ hK qa_F (m, v1) hf
set_option maxRecDepth 100000 in
set_option maxHeartbeats 4000000 in
theorem c_X7_image (l : Launch) (Y : qaY) (m : qaM) (q : Int32 × qaM) (hf : f_X7_image m = some q) : qaMi l Y yX7_image cX7_image 2 (some .int) 1 [.ref (Y.2.2.1 36)] m q.2 q.1 := by
  refine qa_enti (by decide +kernel) (Nat.le_of_ble_eq_true rfl) fun X hC hQ => ?_
  have hK : qa_eq q q := rfl
  unfold f_X7_image at hf
  refine qi_aload_n hC 0 rfl rfl dX7_image_0 ?_
  refine qi_iconst hC dX7_image_1 kn_iconst_1 ?_
  obtain ⟨m1, em1, hf⟩ := qa_lt_e hf
  refine qi_puti hC em1 kp_X7_317 sh_36 rfl rfl rfl dX7_image_2 ?_
  refine qi_aload_n hC 0 rfl rfl dX7_image_5 ?_
  refine qi_aload_n hC 0 rfl rfl dX7_image_6 ?_
  refine qi_geti hC kf_X7_87 sh_36 rfl dX7_image_7 ?_
  obtain ⟨m2, em2, hf⟩ := qa_lt_e hf
  refine qi_puti hC em2 kp_X7_320 sh_36 rfl rfl rfl dX7_image_10 ?_
  refine qi_aload_n hC 0 rfl rfl dX7_image_13 ?_
  refine qi_aload_n hC 0 rfl rfl dX7_image_14 ?_
  refine qi_geti hC kf_X7_94 sh_36 rfl dX7_image_15 ?_
  obtain ⟨m3, em3, hf⟩ := qa_lt_e hf
  refine qi_puti hC em3 kp_X7_323 sh_36 rfl rfl rfl dX7_image_18 ?_
  refine qi_aload_n hC 0 rfl rfl dX7_image_21 ?_
  refine qi_aload_n hC 0 rfl rfl dX7_image_22 ?_
  refine qi_geti hC kf_X7_97 sh_36 rfl dX7_image_23 ?_
  obtain ⟨m4, em4, hf⟩ := qa_lt_e hf
  refine qi_puti hC em4 kp_X7_326 sh_36 rfl rfl rfl dX7_image_26 ?_
  refine qi_aload_n hC 0 rfl rfl dX7_image_29 ?_
  refine qi_aload_n hC 0 rfl rfl dX7_image_30 ?_
  refine qi_geti hC kf_X7_103 sh_36 rfl dX7_image_31 ?_
  obtain ⟨m5, em5, hf⟩ := qa_lt_e hf
  refine qi_puti hC em5 kp_X7_329 sh_36 rfl rfl rfl dX7_image_34 ?_
  refine qi_iconst hC dX7_image_37 kn_iconst_0 ?_
  refine qi_istore_n hC rfl (by decide) rfl dX7_image_38 ?_
  refine qi_sub hC [1, 0] rfl ?_
  exact tl_X7_image_39 hC hQ hf hK
set_option maxRecDepth 100000 in
set_option maxHeartbeats 4000000 in
theorem t_X7_back_96 {X : qaX} {l : Launch} {Y : qaY} {fin : Int32 × qaM} (hC : QC X l Y cX7_back RX7 2 1) (hQ : QRi X Y (some .int) fin.2 fin.1) {m : qaM} {v1 : Int32} {z : ((qaM × Int32) ⊕ (Int32 × qaM))} (hf : b_X7_back_96 m v1 = some z) (hK : (qa_K (fun s => QG X Y 2 s.1 96 [(0, .ref (Y.2.2.1 36)), (1, .int s.2)] []) (qa_eq fin)) z) : QG X Y 2 m 96 [(0, .ref (Y.2.2.1 36)), (1, .int v1)] [] := by
  unfold b_X7_back_96 at hf
  refine qi_iload_n hC 1 rfl rfl dX7_back_96 ?_
  refine qi_iconst hC dX7_back_97 kn_iconst_4 ?_
  refine qi_icmp_ge (tgt := 119) hC (by decide) dX7_back_98 (fun h => ?_) (fun h => ?_)
  · replace hf := qa_if_t h hf
    refine qi_aload_n hC 0 rfl rfl dX7_back_119 ?_
    refine qi_geti hC kf_X7_87 sh_36 rfl dX7_back_120 ?_
    obtain ⟨z, rfl, hg⟩ := qa_inr_e hf; have hf := hg
    obtain rfl := Option.some.inj hf
    exact qi_ireti hC hQ hK dX7_back_123
  · replace hf := qa_if_f h hf
    refine qi_aload_n hC 0 rfl rfl dX7_back_101 ?_
    refine qi_getr hC kf_X7_22 sh_36 rfl dX7_back_102 ?_
    refine qi_iload_n hC 1 rfl rfl dX7_back_105 ?_
    refine qi_aload_n hC 0 rfl rfl dX7_back_106 ?_
    refine qi_getr hC kf_X7_40 sh_36 rfl dX7_back_107 ?_
    refine qi_iload_n hC 1 rfl rfl dX7_back_110 ?_
    obtain ⟨h5, hf⟩ := qa_ck_e hf
    refine qi_iald hC rfl sh_47 (qa_in_v h5) dX7_back_111 ?_
    obtain ⟨h6, hf⟩ := qa_ck_e hf
    obtain ⟨m7, em7, hf⟩ := qa_lt_e hf
    refine qi_iast hC rfl em7 sh_41 (qa_in_v h6) dX7_back_112 ?_
    obtain ⟨x8, ex8, hf⟩ := qa_lt_e hf
    refine qi_iinc hC (n := 1) (v := x8) 1 rfl ((congrArg (fun q => v1 + q) kn_iconst_1).trans ex8.symm) (by decide) rfl dX7_back_113 ?_
    refine qi_goto (tgt := 96) hC (by decide) dX7_back_116 ?_
    obtain rfl := Option.some.inj hf
    refine qi_sub hC [1, 0] rfl ?_
    exact hK
set_option maxRecDepth 100000 in
set_option maxHeartbeats 4000000 in
theorem tn_X7_back_96 {X : qaX} {l : Launch} {Y : qaY} {fin : Int32 × qaM} (hC : QC X l Y cX7_back RX7 2 1) (hQ : QRi X Y (some .int) fin.2 fin.1) {z : (Int32 × qaM)} (hK : (qa_eq fin) z) : ∀ (n : Nat) (s : qaM × Int32), qa_lp (fun s => b_X7_back_96 s.1 s.2) n s = some z → QG X Y 2 s.1 96 [(0, .ref (Y.2.2.1 36)), (1, .int s.2)] [] := by
  intro n
  induction n with
  | zero => intro s hf; cases hf
  | succ n ih =>
    intro s hf
    obtain ⟨y, hy, hf⟩ := qa_lp_e hf
    refine t_X7_back_96 hC hQ hy ?_
    rcases hf with ⟨s', rfl, hf⟩ | rfl
    · exact ih s' hf
    · exact hK
set_option maxRecDepth 100000 in
set_option maxHeartbeats 4000000 in
theorem tl_X7_back_96 {X : qaX} {l : Launch} {Y : qaY} {fin : Int32 × qaM} (hC : QC X l Y cX7_back RX7 2 1) (hQ : QRi X Y (some .int) fin.2 fin.1) {m : qaM} {v1 : Int32} {z : (Int32 × qaM)} (hf : lp_X7_back_96 m v1 = some z) (hK : (qa_eq fin) z) : QG X Y 2 m 96 [(0, .ref (Y.2.2.1 36)), (1, .int v1)] [] :=
  tn_X7_back_96 hC hQ hK qa_F (m, v1) hf
set_option maxRecDepth 100000 in
set_option maxHeartbeats 4000000 in
theorem t_X7_back_94 {X : qaX} {l : Launch} {Y : qaY} {fin : Int32 × qaM} (hC : QC X l Y cX7_back RX7 2 1) (hQ : QRi X Y (some .int) fin.2 fin.1) {m : qaM} {z : (Int32 × qaM)} (hf : b_X7_back_94 m = some z) (hK : (qa_eq fin) z) : QG X Y 2 m 94 [(0, .ref (Y.2.2.1 36))] [] := by
  unfold b_X7_back_94 at hf
  refine qi_iconst hC dX7_back_94 kn_iconst_0 ?_
  refine qi_istore_n hC rfl (by decide) rfl dX7_back_95 ?_
  refine qi_sub hC [1, 0] rfl ?_
  exact tl_X7_back_96 hC hQ hf hK
set_option maxRecDepth 100000 in
set_option maxHeartbeats 4000000 in
theorem t_X7_back_70 {X : qaX} {l : Launch} {Y : qaY} {fin : Int32 × qaM} (hC : QC X l Y cX7_back RX7 2 1) (hQ : QRi X Y (some .int) fin.2 fin.1) {m : qaM} {v1 : Int32} {z : ((qaM × Int32) ⊕ (Int32 × qaM))} (hf : b_X7_back_70 m v1 = some z) (hK : (qa_K (fun s => QG X Y 2 s.1 70 [(0, .ref (Y.2.2.1 36)), (1, .int s.2)] []) (qa_eq fin)) z) : QG X Y 2 m 70 [(0, .ref (Y.2.2.1 36)), (1, .int v1)] [] := by
  unfold b_X7_back_70 at hf
  refine qi_iload_n hC 1 rfl rfl dX7_back_70 ?_
  refine qi_bipush hC dX7_back_71 kn_bipush_9 ?_
  refine qi_icmp_ge (tgt := 94) hC (by decide) dX7_back_73 (fun h => ?_) (fun h => ?_)
  · replace hf := qa_if_t h hf
    obtain ⟨z, rfl, hg⟩ := qa_inr_e hf; have hf := hg
    refine qi_sub hC [0] rfl ?_
    exact t_X7_back_94 hC hQ hf hK
  · replace hf := qa_if_f h hf
    refine qi_aload_n hC 0 rfl rfl dX7_back_76 ?_
    refine qi_getr hC kf_X7_19 sh_36 rfl dX7_back_77 ?_
    refine qi_iload_n hC 1 rfl rfl dX7_back_80 ?_
    refine qi_aload_n hC 0 rfl rfl dX7_back_81 ?_
    refine qi_getr hC kf_X7_37 sh_36 rfl dX7_back_82 ?_
    refine qi_iload_n hC 1 rfl rfl dX7_back_85 ?_
    obtain ⟨h9, hf⟩ := qa_ck_e hf
    refine qi_iald hC rfl sh_46 (qa_in_v h9) dX7_back_86 ?_
    obtain ⟨h10, hf⟩ := qa_ck_e hf
    obtain ⟨m11, em11, hf⟩ := qa_lt_e hf
    refine qi_iast hC rfl em11 sh_40 (qa_in_v h10) dX7_back_87 ?_
    obtain ⟨x12, ex12, hf⟩ := qa_lt_e hf
    refine qi_iinc hC (n := 1) (v := x12) 1 rfl ((congrArg (fun q => v1 + q) kn_iconst_1).trans ex12.symm) (by decide) rfl dX7_back_88 ?_
    refine qi_goto (tgt := 70) hC (by decide) dX7_back_91 ?_
    obtain rfl := Option.some.inj hf
    refine qi_sub hC [1, 0] rfl ?_
    exact hK
set_option maxRecDepth 100000 in
set_option maxHeartbeats 4000000 in
theorem tn_X7_back_70 {X : qaX} {l : Launch} {Y : qaY} {fin : Int32 × qaM} (hC : QC X l Y cX7_back RX7 2 1) (hQ : QRi X Y (some .int) fin.2 fin.1) {z : (Int32 × qaM)} (hK : (qa_eq fin) z) : ∀ (n : Nat) (s : qaM × Int32), qa_lp (fun s => b_X7_back_70 s.1 s.2) n s = some z → QG X Y 2 s.1 70 [(0, .ref (Y.2.2.1 36)), (1, .int s.2)] [] := by
  intro n
  induction n with
  | zero => intro s hf; cases hf
  | succ n ih =>
    intro s hf
    obtain ⟨y, hy, hf⟩ := qa_lp_e hf
    refine t_X7_back_70 hC hQ hy ?_
    rcases hf with ⟨s', rfl, hf⟩ | rfl
    · exact ih s' hf
    · exact hK
set_option maxRecDepth 100000 in
set_option maxHeartbeats 4000000 in
theorem tl_X7_back_70 {X : qaX} {l : Launch} {Y : qaY} {fin : Int32 × qaM} (hC : QC X l Y cX7_back RX7 2 1) (hQ : QRi X Y (some .int) fin.2 fin.1) {m : qaM} {v1 : Int32} {z : (Int32 × qaM)} (hf : lp_X7_back_70 m v1 = some z) (hK : (qa_eq fin) z) : QG X Y 2 m 70 [(0, .ref (Y.2.2.1 36)), (1, .int v1)] [] :=
  tn_X7_back_70 hC hQ hK qa_F (m, v1) hf
set_option maxRecDepth 100000 in
set_option maxHeartbeats 4000000 in
theorem t_X7_back_68 {X : qaX} {l : Launch} {Y : qaY} {fin : Int32 × qaM} (hC : QC X l Y cX7_back RX7 2 1) (hQ : QRi X Y (some .int) fin.2 fin.1) {m : qaM} {z : (Int32 × qaM)} (hf : b_X7_back_68 m = some z) (hK : (qa_eq fin) z) : QG X Y 2 m 68 [(0, .ref (Y.2.2.1 36))] [] := by
  unfold b_X7_back_68 at hf
  refine qi_iconst hC dX7_back_68 kn_iconst_0 ?_
  refine qi_istore_n hC rfl (by decide) rfl dX7_back_69 ?_
  refine qi_sub hC [1, 0] rfl ?_
  exact tl_X7_back_70 hC hQ hf hK
set_option maxRecDepth 100000 in
set_option maxHeartbeats 4000000 in
theorem t_X7_back_44 {X : qaX} {l : Launch} {Y : qaY} {fin : Int32 × qaM} (hC : QC X l Y cX7_back RX7 2 1) (hQ : QRi X Y (some .int) fin.2 fin.1) {m : qaM} {v1 : Int32} {z : ((qaM × Int32) ⊕ (Int32 × qaM))} (hf : b_X7_back_44 m v1 = some z) (hK : (qa_K (fun s => QG X Y 2 s.1 44 [(0, .ref (Y.2.2.1 36)), (1, .int s.2)] []) (qa_eq fin)) z) : QG X Y 2 m 44 [(0, .ref (Y.2.2.1 36)), (1, .int v1)] [] := by
  unfold b_X7_back_44 at hf
  refine qi_iload_n hC 1 rfl rfl dX7_back_44 ?_
  refine qi_bipush hC dX7_back_45 kn_bipush_48 ?_
  refine qi_icmp_ge (tgt := 68) hC (by decide) dX7_back_47 (fun h => ?_) (fun h => ?_)
  · replace hf := qa_if_t h hf
    obtain ⟨z, rfl, hg⟩ := qa_inr_e hf; have hf := hg
    refine qi_sub hC [0] rfl ?_
    exact t_X7_back_68 hC hQ hf hK
  · replace hf := qa_if_f h hf
    refine qi_aload_n hC 0 rfl rfl dX7_back_50 ?_
    refine qi_getr hC kf_X7_16 sh_36 rfl dX7_back_51 ?_
    refine qi_iload_n hC 1 rfl rfl dX7_back_54 ?_
    refine qi_aload_n hC 0 rfl rfl dX7_back_55 ?_
    refine qi_getr hC kf_X7_34 sh_36 rfl dX7_back_56 ?_
    refine qi_iload_n hC 1 rfl rfl dX7_back_59 ?_
    obtain ⟨h13, hf⟩ := qa_ck_e hf
    refine qi_iald hC rfl sh_45 (qa_in_v h13) dX7_back_60 ?_
    obtain ⟨h14, hf⟩ := qa_ck_e hf
    obtain ⟨m15, em15, hf⟩ := qa_lt_e hf
    refine qi_iast hC rfl em15 sh_39 (qa_in_v h14) dX7_back_61 ?_
    obtain ⟨x16, ex16, hf⟩ := qa_lt_e hf
    refine qi_iinc hC (n := 1) (v := x16) 1 rfl ((congrArg (fun q => v1 + q) kn_iconst_1).trans ex16.symm) (by decide) rfl dX7_back_62 ?_
    refine qi_goto (tgt := 44) hC (by decide) dX7_back_65 ?_
    obtain rfl := Option.some.inj hf
    refine qi_sub hC [1, 0] rfl ?_
    exact hK
set_option maxRecDepth 100000 in
set_option maxHeartbeats 4000000 in
theorem tn_X7_back_44 {X : qaX} {l : Launch} {Y : qaY} {fin : Int32 × qaM} (hC : QC X l Y cX7_back RX7 2 1) (hQ : QRi X Y (some .int) fin.2 fin.1) {z : (Int32 × qaM)} (hK : (qa_eq fin) z) : ∀ (n : Nat) (s : qaM × Int32), qa_lp (fun s => b_X7_back_44 s.1 s.2) n s = some z → QG X Y 2 s.1 44 [(0, .ref (Y.2.2.1 36)), (1, .int s.2)] [] := by
  intro n
  induction n with
  | zero => intro s hf; cases hf
  | succ n ih =>
    intro s hf
    obtain ⟨y, hy, hf⟩ := qa_lp_e hf
    refine t_X7_back_44 hC hQ hy ?_
    rcases hf with ⟨s', rfl, hf⟩ | rfl
    · exact ih s' hf
    · exact hK
set_option maxRecDepth 100000 in
set_option maxHeartbeats 4000000 in
theorem tl_X7_back_44 {X : qaX} {l : Launch} {Y : qaY} {fin : Int32 × qaM} (hC : QC X l Y cX7_back RX7 2 1) (hQ : QRi X Y (some .int) fin.2 fin.1) {m : qaM} {v1 : Int32} {z : (Int32 × qaM)} (hf : lp_X7_back_44 m v1 = some z) (hK : (qa_eq fin) z) : QG X Y 2 m 44 [(0, .ref (Y.2.2.1 36)), (1, .int v1)] [] :=
  tn_X7_back_44 hC hQ hK qa_F (m, v1) hf
set_option maxRecDepth 100000 in
set_option maxHeartbeats 4000000 in
theorem c_X7_back (l : Launch) (Y : qaY) (m : qaM) (q : Int32 × qaM) (hf : f_X7_back m = some q) : qaMi l Y yX7_back cX7_back 2 (some .int) 1 [.ref (Y.2.2.1 36)] m q.2 q.1 := by
  refine qa_enti (by decide +kernel) (Nat.le_of_ble_eq_true rfl) fun X hC hQ => ?_
  have hK : qa_eq q q := rfl
  unfold f_X7_back at hf
  refine qi_aload_n hC 0 rfl rfl dX7_back_0 ?_
  refine qi_geti hC kf_X7_317 sh_36 rfl dX7_back_1 ?_
  refine qi_if_ne (tgt := 10) hC (by decide) dX7_back_4 (fun h => ?_) (fun h => ?_)
  · replace hf := qa_if_f h hf
    refine qi_aload_n hC 0 rfl rfl dX7_back_10 ?_
    refine qi_aload_n hC 0 rfl rfl dX7_back_11 ?_
    refine qi_geti hC kf_X7_320 sh_36 rfl dX7_back_12 ?_
    obtain ⟨m1, em1, hf⟩ := qa_lt_e hf
    refine qi_puti hC em1 kp_X7_87 sh_36 rfl rfl rfl dX7_back_15 ?_
    refine qi_aload_n hC 0 rfl rfl dX7_back_18 ?_
    refine qi_aload_n hC 0 rfl rfl dX7_back_19 ?_
    refine qi_geti hC kf_X7_323 sh_36 rfl dX7_back_20 ?_
    obtain ⟨m2, em2, hf⟩ := qa_lt_e hf
    refine qi_puti hC em2 kp_X7_94 sh_36 rfl rfl rfl dX7_back_23 ?_
    refine qi_aload_n hC 0 rfl rfl dX7_back_26 ?_
    refine qi_aload_n hC 0 rfl rfl dX7_back_27 ?_
    refine qi_geti hC kf_X7_326 sh_36 rfl dX7_back_28 ?_
    obtain ⟨m3, em3, hf⟩ := qa_lt_e hf
    refine qi_puti hC em3 kp_X7_97 sh_36 rfl rfl rfl dX7_back_31 ?_
    refine qi_aload_n hC 0 rfl rfl dX7_back_34 ?_
    refine qi_aload_n hC 0 rfl rfl dX7_back_35 ?_
    refine qi_geti hC kf_X7_329 sh_36 rfl dX7_back_36 ?_
    obtain ⟨m4, em4, hf⟩ := qa_lt_e hf
    refine qi_puti hC em4 kp_X7_103 sh_36 rfl rfl rfl dX7_back_39 ?_
    refine qi_iconst hC dX7_back_42 kn_iconst_0 ?_
    refine qi_istore_n hC rfl (by decide) rfl dX7_back_43 ?_
    refine qi_sub hC [1, 0] rfl ?_
    exact tl_X7_back_44 hC hQ hf hK
  · replace hf := qa_if_t h hf
    refine qi_bipush hC dX7_back_7 kn_bipush_m3 ?_
    obtain rfl := Option.some.inj hf
    exact qi_ireti hC hQ hK dX7_back_9
set_option maxRecDepth 100000 in
set_option maxHeartbeats 4000000 in
theorem t_X7_sheet_70 {X : qaX} {l : Launch} {Y : qaY} {fin : Int32 × qaM} (hC : QC X l Y cX7_sheet RX7 5 2) (hQ : QRi X Y (some .int) fin.2 fin.1) {m : qaM} {v1 : Int32} {v4 : Int32} {z : ((qaM × Int32) ⊕ (Int32 × qaM))} (hf : b_X7_sheet_70 m v1 v4 = some z) (hK : (qa_K (fun s => QG X Y 5 s.1 70 [(0, .ref (Y.2.2.1 36)), (1, .int v1), (4, .int s.2)] []) (qa_eq fin)) z) : QG X Y 5 m 70 [(0, .ref (Y.2.2.1 36)), (1, .int v1), (4, .int v4)] [] := by
  unfold b_X7_sheet_70 at hf
  refine qi_iload hC 2 rfl dX7_sheet_70 ?_
  refine qi_bipush hC dX7_sheet_72 kn_bipush_40 ?_
  refine qi_icmp_ge (tgt := 96) hC (by decide) dX7_sheet_74 (fun h => ?_) (fun h => ?_)
  · replace hf := qa_if_t h hf
    refine qi_iconst hC dX7_sheet_96 kn_iconst_1 ?_
    obtain ⟨z, rfl, hg⟩ := qa_inr_e hf; have hf := hg
    obtain rfl := Option.some.inj hf
    exact qi_ireti hC hQ hK dX7_sheet_97
  · replace hf := qa_if_f h hf
    refine qi_aload_n hC 0 rfl rfl dX7_sheet_77 ?_
    refine qi_getr hC kf_X7_49 sh_36 rfl dX7_sheet_78 ?_
    refine qi_bipush hC dX7_sheet_81 kn_bipush_40 ?_
    refine qi_iload_n hC 1 rfl rfl dX7_sheet_83 ?_
    refine qi_imul hC dX7_sheet_84 ?_
    refine qi_iload hC 2 rfl dX7_sheet_85 ?_
    refine qi_iadd hC dX7_sheet_87 ?_
    refine qi_iconst hC dX7_sheet_88 kn_iconst_0 ?_
    obtain ⟨h7, hf⟩ := qa_ck_e hf
    obtain ⟨m8, em8, hf⟩ := qa_lt_e hf
    refine qi_iast hC rfl em8 sh_50 (qa_in_v h7) dX7_sheet_89 ?_
    obtain ⟨x9, ex9, hf⟩ := qa_lt_e hf
    refine qi_iinc hC (n := 1) (v := x9) 2 rfl ((congrArg (fun q => v4 + q) kn_iconst_1).trans ex9.symm) (by decide) rfl dX7_sheet_90 ?_
    refine qi_goto (tgt := 70) hC (by decide) dX7_sheet_93 ?_
    obtain rfl := Option.some.inj hf
    refine qi_sub hC [1, 2, 0] rfl ?_
    exact hK
set_option maxRecDepth 100000 in
set_option maxHeartbeats 4000000 in
theorem tn_X7_sheet_70 {X : qaX} {l : Launch} {Y : qaY} {fin : Int32 × qaM} (hC : QC X l Y cX7_sheet RX7 5 2) (hQ : QRi X Y (some .int) fin.2 fin.1) {v1 : Int32} {z : (Int32 × qaM)} (hK : (qa_eq fin) z) : ∀ (n : Nat) (s : qaM × Int32), qa_lp (fun s => b_X7_sheet_70 s.1 v1 s.2) n s = some z → QG X Y 5 s.1 70 [(0, .ref (Y.2.2.1 36)), (1, .int v1), (4, .int s.2)] [] := by
  intro n
  induction n with
  | zero => intro s hf; cases hf
  | succ n ih =>
    intro s hf
    obtain ⟨y, hy, hf⟩ := qa_lp_e hf
    refine t_X7_sheet_70 hC hQ hy ?_
    rcases hf with ⟨s', rfl, hf⟩ | rfl
    · exact ih s' hf
    · exact hK
set_option maxRecDepth 100000 in
set_option maxHeartbeats 4000000 in
theorem tl_X7_sheet_70 {X : qaX} {l : Launch} {Y : qaY} {fin : Int32 × qaM} (hC : QC X l Y cX7_sheet RX7 5 2) (hQ : QRi X Y (some .int) fin.2 fin.1) {m : qaM} {v1 : Int32} {v4 : Int32} {z : (Int32 × qaM)} (hf : lp_X7_sheet_70 m v1 v4 = some z) (hK : (qa_eq fin) z) : QG X Y 5 m 70 [(0, .ref (Y.2.2.1 36)), (1, .int v1), (4, .int v4)] [] :=
  tn_X7_sheet_70 hC hQ hK qa_F (m, v4) hf
set_option maxRecDepth 100000 in
set_option maxHeartbeats 4000000 in
theorem t_X7_sheet_66 {X : qaX} {l : Launch} {Y : qaY} {fin : Int32 × qaM} (hC : QC X l Y cX7_sheet RX7 5 2) (hQ : QRi X Y (some .int) fin.2 fin.1) {m : qaM} {v1 : Int32} {s1 : Int32} {s2 : Int32} {z : (Int32 × qaM)} (hf : b_X7_sheet_66 m v1 s1 s2 = some z) (hK : (qa_eq fin) z) : QG X Y 5 m 66 [(0, .ref (Y.2.2.1 36)), (1, .int v1)] [.int s2, .int s1, .ref (Y.2.2.1 49)] := by
  unfold b_X7_sheet_66 at hf
  obtain ⟨h5, hf⟩ := qa_ck_e hf
  obtain ⟨m6, em6, hf⟩ := qa_lt_e hf
  refine qi_iast hC rfl em6 sh_49 (qa_in_v h5) dX7_sheet_66 ?_
  refine qi_iconst hC dX7_sheet_67 kn_iconst_0 ?_
  refine qi_istore hC (by decide) rfl dX7_sheet_68 ?_
  refine qi_sub hC [1, 2, 0] rfl ?_
  exact tl_X7_sheet_70 hC hQ hf hK
set_option maxRecDepth 100000 in
set_option maxHeartbeats 4000000 in
theorem t_X7_sheet_44 {X : qaX} {l : Launch} {Y : qaY} {fin : Int32 × qaM} (hC : QC X l Y cX7_sheet RX7 5 2) (hQ : QRi X Y (some .int) fin.2 fin.1) {m : qaM} {v1 : Int32} {v2 : Int32} {v3 : Int32} {z : (Int32 × qaM)} (hf : b_X7_sheet_44 m v1 v2 v3 = some z) (hK : (qa_eq fin) z) : QG X Y 5 m 44 [(0, .ref (Y.2.2.1 36)), (1, .int v1), (2, .int v2), (3, .int v3)] [] := by
  unfold b_X7_sheet_44 at hf
  refine qi_aload_n hC 0 rfl rfl dX7_sheet_44 ?_
  refine qi_getr hC kf_X7_43 sh_36 rfl dX7_sheet_45 ?_
  refine qi_iload_n hC 1 rfl rfl dX7_sheet_48 ?_
  refine qi_iload_n hC 2 rfl rfl dX7_sheet_49 ?_
  obtain ⟨h3, hf⟩ := qa_ck_e hf
  obtain ⟨m4, em4, hf⟩ := qa_lt_e hf
  refine qi_iast hC rfl em4 sh_48 (qa_in_v h3) dX7_sheet_50 ?_
  refine qi_aload_n hC 0 rfl rfl dX7_sheet_51 ?_
  refine qi_getr hC kf_X7_46 sh_36 rfl dX7_sheet_52 ?_
  refine qi_iload_n hC 1 rfl rfl dX7_sheet_55 ?_
  refine qi_iload_n hC 2 rfl rfl dX7_sheet_56 ?_
  refine qi_iconst hC dX7_sheet_57 kn_iconst_m1 ?_
  refine qi_icmp_ne (tgt := 65) hC (by decide) dX7_sheet_58 (fun h => ?_) (fun h => ?_)
  · replace hf := qa_if_f h hf
    refine qi_iload_n hC 3 rfl rfl dX7_sheet_65 ?_
    refine qi_sub hC [0, 1] rfl ?_
    exact t_X7_sheet_66 hC hQ hf hK
  · replace hf := qa_if_t h hf
    refine qi_iconst hC dX7_sheet_61 kn_iconst_0 ?_
    refine qi_goto (tgt := 66) hC (by decide) dX7_sheet_62 ?_
    refine qi_sub hC [0, 1] rfl ?_
    exact t_X7_sheet_66 hC hQ hf hK
set_option maxRecDepth 100000 in
set_option maxHeartbeats 4000000 in
theorem t_X7_sheet_32 {X : qaX} {l : Launch} {Y : qaY} {fin : Int32 × qaM} (hC : QC X l Y cX7_sheet RX7 5 2) (hQ : QRi X Y (some .int) fin.2 fin.1) {m : qaM} {v1 : Int32} {v2 : Int32} {v3 : Int32} {z : (Int32 × qaM)} (hf : b_X7_sheet_32 m v1 v2 v3 = some z) (hK : (qa_eq fin) z) : QG X Y 5 m 32 [(0, .ref (Y.2.2.1 36)), (1, .int v1), (2, .int v2), (3, .int v3)] [] := by
  unfold b_X7_sheet_32 at hf
  refine qi_iload_n hC 2 rfl rfl dX7_sheet_32 ?_
  refine qi_iconst hC dX7_sheet_33 kn_iconst_m1 ?_
  refine qi_icmp_eq (tgt := 44) hC (by decide) dX7_sheet_34 (fun h => ?_) (fun h => ?_)
  · replace hf := qa_if_t h hf
    exact t_X7_sheet_44 hC hQ hf hK
  · replace hf := qa_if_f h hf
    refine qi_iload_n hC 3 rfl rfl dX7_sheet_37 ?_
    refine qi_if_ge (tgt := 44) hC (by decide) dX7_sheet_38 (fun h => ?_) (fun h => ?_)
    · replace hf := qa_if_t h hf
      exact t_X7_sheet_44 hC hQ hf hK
    · replace hf := qa_if_f h hf
      refine qi_bipush hC dX7_sheet_41 kn_bipush_m14 ?_
      obtain rfl := Option.some.inj hf
      exact qi_ireti hC hQ hK dX7_sheet_43
set_option maxRecDepth 100000 in
set_option maxHeartbeats 4000000 in
theorem c_X7_sheet (l : Launch) (Y : qaY) (m : qaM) (v1 : Int32) (v2 : Int32) (v3 : Int32) (q : Int32 × qaM) (hf : f_X7_sheet m v1 v2 v3 = some q) : qaMi l Y yX7_sheet cX7_sheet 5 (some .int) 2 [.ref (Y.2.2.1 36), .int v1, .int v2, .int v3] m q.2 q.1 := by
  refine qa_enti (by decide +kernel) (Nat.le_of_ble_eq_true rfl) fun X hC hQ => ?_
  have hK : qa_eq q q := rfl
  unfold f_X7_sheet at hf
  refine qi_iload_n hC 1 rfl rfl dX7_sheet_0 ?_
  refine qi_iconst hC dX7_sheet_1 kn_iconst_0 ?_
  refine qi_iconst hC dX7_sheet_2 kn_iconst_3 ?_
  obtain ⟨q1, hq1, hf⟩ := Option.bind_eq_some_iff.mp hf
  refine qi_callSi hC (as := [.int v1, .int (0 : Int32), .int (3 : Int32)]) (c_X7_in _ _ _ _ _ _ _ hq1) kl_X7_90 kc_X7_in rfl rfl (by decide) (by decide) (Nat.le_of_ble_eq_true rfl) dX7_sheet_3 ?_
  refine qi_if_eq (tgt := 29) hC (by decide) dX7_sheet_6 (fun h => ?_) (fun h => ?_)
  · replace hf := qa_if_t h hf
    refine qi_bipush hC dX7_sheet_29 kn_bipush_m2 ?_
    obtain rfl := Option.some.inj hf
    exact qi_ireti hC hQ hK dX7_sheet_31
  · replace hf := qa_if_f h hf
    refine qi_iload_n hC 2 rfl rfl dX7_sheet_9 ?_
    refine qi_iconst hC dX7_sheet_10 kn_iconst_m1 ?_
    refine qi_iconst hC dX7_sheet_11 kn_iconst_2 ?_
    obtain ⟨q2, hq2, hf⟩ := Option.bind_eq_some_iff.mp hf
    refine qi_callSi hC (as := [.int v2, .int (-1 : Int32), .int (2 : Int32)]) (c_X7_in _ _ _ _ _ _ _ hq2) kl_X7_90 kc_X7_in rfl rfl (by decide) (by decide) (Nat.le_of_ble_eq_true rfl) dX7_sheet_12 ?_
    refine qi_if_eq (tgt := 29) hC (by decide) dX7_sheet_15 (fun h => ?_) (fun h => ?_)
    · replace hf := qa_if_t h hf
      refine qi_bipush hC dX7_sheet_29 kn_bipush_m2 ?_
      obtain rfl := Option.some.inj hf
      exact qi_ireti hC hQ hK dX7_sheet_31
    · replace hf := qa_if_f h hf
      refine qi_iload_n hC 2 rfl rfl dX7_sheet_18 ?_
      refine qi_iconst hC dX7_sheet_19 kn_iconst_m1 ?_
      refine qi_icmp_eq (tgt := 32) hC (by decide) dX7_sheet_20 (fun h => ?_) (fun h => ?_)
      · replace hf := qa_if_t h hf
        exact t_X7_sheet_32 hC hQ hf hK
      · replace hf := qa_if_f h hf
        refine qi_iload_n hC 3 rfl rfl dX7_sheet_23 ?_
        refine qi_bipush hC dX7_sheet_24 kn_bipush_40 ?_
        refine qi_icmp_le (tgt := 32) hC (by decide) dX7_sheet_26 (fun h => ?_) (fun h => ?_)
        · replace hf := qa_if_t h hf
          exact t_X7_sheet_32 hC hQ hf hK
        · replace hf := qa_if_f h hf
          refine qi_bipush hC dX7_sheet_29 kn_bipush_m2 ?_
          obtain rfl := Option.some.inj hf
          exact qi_ireti hC hQ hK dX7_sheet_31
set_option maxRecDepth 100000 in
set_option maxHeartbeats 4000000 in
theorem t_X7_cell_84 {X : qaX} {l : Launch} {Y : qaY} {fin : Int32 × qaM} (hC : QC X l Y cX7_cell RX7 4 2) (hQ : QRi X Y (some .int) fin.2 fin.1) {m : qaM} {s1 : Int32} {s2 : Int32} {z : (Int32 × qaM)} (hf : b_X7_cell_84 m s1 s2 = some z) (hK : (qa_eq fin) z) : QG X Y 4 m 84 [] [.int s2, .int s1, .ref (Y.2.2.1 50)] := by
  unfold b_X7_cell_84 at hf
  obtain ⟨h7, hf⟩ := qa_ck_e hf
  obtain ⟨m8, em8, hf⟩ := qa_lt_e hf
  refine qi_iast hC rfl em8 sh_50 (qa_in_v h7) dX7_cell_84 ?_
  refine qi_iconst hC dX7_cell_85 kn_iconst_1 ?_
  obtain rfl := Option.some.inj hf
  exact qi_ireti hC hQ hK dX7_cell_86
set_option maxRecDepth 100000 in
set_option maxHeartbeats 4000000 in
theorem c_X7_cell (l : Launch) (Y : qaY) (m : qaM) (v1 : Int32) (v2 : Int32) (v3 : Int32) (q : Int32 × qaM) (hf : f_X7_cell m v1 v2 v3 = some q) : qaMi l Y yX7_cell cX7_cell 4 (some .int) 2 [.ref (Y.2.2.1 36), .int v1, .int v2, .int v3] m q.2 q.1 := by
  refine qa_enti (by decide +kernel) (Nat.le_of_ble_eq_true rfl) fun X hC hQ => ?_
  have hK : qa_eq q q := rfl
  unfold f_X7_cell at hf
  refine qi_iload_n hC 1 rfl rfl dX7_cell_0 ?_
  refine qi_iconst hC dX7_cell_1 kn_iconst_0 ?_
  refine qi_iconst hC dX7_cell_2 kn_iconst_3 ?_
  obtain ⟨q1, hq1, hf⟩ := Option.bind_eq_some_iff.mp hf
  refine qi_callSi hC (as := [.int v1, .int (0 : Int32), .int (3 : Int32)]) (c_X7_in _ _ _ _ _ _ _ hq1) kl_X7_90 kc_X7_in rfl rfl (by decide) (by decide) (Nat.le_of_ble_eq_true rfl) dX7_cell_3 ?_
  refine qi_if_ne (tgt := 12) hC (by decide) dX7_cell_6 (fun h => ?_) (fun h => ?_)
  · replace hf := qa_if_f h hf
    refine qi_aload_n hC 0 rfl rfl dX7_cell_12 ?_
    refine qi_getr hC kf_X7_43 sh_36 rfl dX7_cell_13 ?_
    refine qi_iload_n hC 1 rfl rfl dX7_cell_16 ?_
    obtain ⟨h2, hf⟩ := qa_ck_e hf
    refine qi_iald hC rfl sh_48 (qa_in_v h2) dX7_cell_17 ?_
    refine qi_iconst hC dX7_cell_18 kn_iconst_m1 ?_
    refine qi_icmp_ne (tgt := 25) hC (by decide) dX7_cell_19 (fun h => ?_) (fun h => ?_)
    · replace hf := qa_if_f h hf
      refine qi_iload_n hC 2 rfl rfl dX7_cell_25 ?_
      refine qi_iconst hC dX7_cell_26 kn_iconst_0 ?_
      refine qi_aload_n hC 0 rfl rfl dX7_cell_27 ?_
      refine qi_getr hC kf_X7_46 sh_36 rfl dX7_cell_28 ?_
      refine qi_iload_n hC 1 rfl rfl dX7_cell_31 ?_
      obtain ⟨h3, hf⟩ := qa_ck_e hf
      refine qi_iald hC rfl sh_49 (qa_in_v h3) dX7_cell_32 ?_
      refine qi_iconst hC dX7_cell_33 kn_iconst_1 ?_
      refine qi_isub hC dX7_cell_34 ?_
      obtain ⟨q4, hq4, hf⟩ := Option.bind_eq_some_iff.mp hf
      refine qi_callSi hC (as := [.int v2, .int (0 : Int32), .int ((m 49 v1.toNatClampNeg) - (1 : Int32))]) (c_X7_in _ _ _ _ _ _ _ hq4) kl_X7_90 kc_X7_in rfl rfl (by decide) (by decide) (Nat.le_of_ble_eq_true rfl) dX7_cell_35 ?_
      refine qi_if_ne (tgt := 44) hC (by decide) dX7_cell_38 (fun h => ?_) (fun h => ?_)
      · replace hf := qa_if_f h hf
        refine qi_aload_n hC 0 rfl rfl dX7_cell_44 ?_
        refine qi_getr hC kf_X7_49 sh_36 rfl dX7_cell_45 ?_
        refine qi_bipush hC dX7_cell_48 kn_bipush_40 ?_
        refine qi_iload_n hC 1 rfl rfl dX7_cell_50 ?_
        refine qi_imul hC dX7_cell_51 ?_
        refine qi_iload_n hC 2 rfl rfl dX7_cell_52 ?_
        refine qi_iadd hC dX7_cell_53 ?_
        refine qi_aload_n hC 0 rfl rfl dX7_cell_54 ?_
        refine qi_getr hC kf_X7_43 sh_36 rfl dX7_cell_55 ?_
        refine qi_iload_n hC 1 rfl rfl dX7_cell_58 ?_
        obtain ⟨h5, hf⟩ := qa_ck_e hf
        refine qi_iald hC rfl sh_48 (qa_in_v h5) dX7_cell_59 ?_
        refine qi_if_ne (tgt := 68) hC (by decide) dX7_cell_60 (fun h => ?_) (fun h => ?_)
        · replace hf := qa_if_f h hf
          refine qi_aload_n hC 0 rfl rfl dX7_cell_68 ?_
          refine qi_getr hC kf_X7_43 sh_36 rfl dX7_cell_69 ?_
          refine qi_iload_n hC 1 rfl rfl dX7_cell_72 ?_
          obtain ⟨h6, hf⟩ := qa_ck_e hf
          refine qi_iald hC rfl sh_48 (qa_in_v h6) dX7_cell_73 ?_
          refine qi_iconst hC dX7_cell_74 kn_iconst_1 ?_
          refine qi_icmp_ne (tgt := 83) hC (by decide) dX7_cell_75 (fun h => ?_) (fun h => ?_)
          · replace hf := qa_if_f h hf
            refine qi_iload_n hC 3 rfl rfl dX7_cell_83 ?_
            refine qi_sub hC [] rfl ?_
            exact t_X7_cell_84 hC hQ hf hK
          · replace hf := qa_if_t h hf
            refine qi_iload_n hC 3 rfl rfl dX7_cell_78 ?_
            refine qi_i2s hC dX7_cell_79 ?_
            refine qi_goto (tgt := 84) hC (by decide) dX7_cell_80 ?_
            refine qi_sub hC [] rfl ?_
            exact t_X7_cell_84 hC hQ hf hK
        · replace hf := qa_if_t h hf
          refine qi_iload_n hC 3 rfl rfl dX7_cell_63 ?_
          refine qi_i2b hC dX7_cell_64 ?_
          refine qi_goto (tgt := 84) hC (by decide) dX7_cell_65 ?_
          refine qi_sub hC [] rfl ?_
          exact t_X7_cell_84 hC hQ hf hK
      · replace hf := qa_if_t h hf
        refine qi_bipush hC dX7_cell_41 kn_bipush_m12 ?_
        obtain rfl := Option.some.inj hf
        exact qi_ireti hC hQ hK dX7_cell_43
    · replace hf := qa_if_t h hf
      refine qi_bipush hC dX7_cell_22 kn_bipush_m11 ?_
      obtain rfl := Option.some.inj hf
      exact qi_ireti hC hQ hK dX7_cell_24
  · replace hf := qa_if_t h hf
    refine qi_bipush hC dX7_cell_9 kn_bipush_m2 ?_
    obtain rfl := Option.some.inj hf
    exact qi_ireti hC hQ hK dX7_cell_11
set_option maxRecDepth 100000 in
set_option maxHeartbeats 4000000 in
theorem t_X7_copy_173 {X : qaX} {l : Launch} {Y : qaY} {fin : Int32 × qaM} (hC : QC X l Y cX7_copy RX7 10 2) (hQ : QRi X Y (some .int) fin.2 fin.1) {m : qaM} {v5 : Int32} {v6 : Int32} {v7 : Int32} {v8 : Int32} {s0 : Int32} {z : ((qaM × Int32) ⊕ (Int32 × qaM))} (hf : b_X7_copy_173 m v5 v6 v7 v8 s0 = some z) (hK : (qa_K (fun s => QG X Y 10 s.1 147 [(0, .ref (Y.2.2.1 36)), (5, .int v5), (6, .int v6), (7, .int v7), (8, .int s.2)] []) (qa_eq fin)) z) : QG X Y 10 m 173 [(0, .ref (Y.2.2.1 36)), (5, .int v5), (6, .int v6), (7, .int v7), (8, .int v8)] [.int s0] := by
  unfold b_X7_copy_173 at hf
  refine qi_istore hC (by decide) rfl dX7_copy_173 ?_
  refine qi_aload_n hC 1 rfl rfl dX7_copy_175 ?_
  refine qi_getr hC kf_X7_49 sh_36 rfl dX7_copy_176 ?_
  refine qi_iload hC 4 rfl dX7_copy_179 ?_
  refine qi_iload hC 0 rfl dX7_copy_181 ?_
  refine qi_iadd hC dX7_copy_183 ?_
  refine qi_aload_n hC 1 rfl rfl dX7_copy_184 ?_
  refine qi_getr hC kf_X7_49 sh_36 rfl dX7_copy_185 ?_
  refine qi_iload hC 3 rfl dX7_copy_188 ?_
  refine qi_iload hC 0 rfl dX7_copy_190 ?_
  refine qi_iadd hC dX7_copy_192 ?_
  obtain ⟨h13, hf⟩ := qa_ck_e hf
  refine qi_iald hC rfl sh_50 (qa_in_v h13) dX7_copy_193 ?_
  obtain ⟨h14, hf⟩ := qa_ck_e hf
  obtain ⟨m15, em15, hf⟩ := qa_lt_e hf
  refine qi_iast hC rfl em15 sh_50 (qa_in_v h14) dX7_copy_194 ?_
  obtain ⟨x16, ex16, hf⟩ := qa_lt_e hf
  refine qi_iinc hC (n := 1) (v := x16) 5 rfl ((congrArg (fun q => v8 + q) kn_iconst_1).trans ex16.symm) (by decide) rfl dX7_copy_195 ?_
  refine qi_goto (tgt := 147) hC (by decide) dX7_copy_198 ?_
  obtain rfl := Option.some.inj hf
  refine qi_sub hC [2, 3, 4, 5, 0] rfl ?_
  exact hK
set_option maxRecDepth 100000 in
set_option maxHeartbeats 4000000 in
theorem t_X7_copy_147 {X : qaX} {l : Launch} {Y : qaY} {fin : Int32 × qaM} (hC : QC X l Y cX7_copy RX7 10 2) (hQ : QRi X Y (some .int) fin.2 fin.1) {m : qaM} {v5 : Int32} {v6 : Int32} {v7 : Int32} {v8 : Int32} {z : ((qaM × Int32) ⊕ (Int32 × qaM))} (hf : b_X7_copy_147 m v5 v6 v7 v8 = some z) (hK : (qa_K (fun s => QG X Y 10 s.1 147 [(0, .ref (Y.2.2.1 36)), (5, .int v5), (6, .int v6), (7, .int v7), (8, .int s.2)] []) (qa_eq fin)) z) : QG X Y 10 m 147 [(0, .ref (Y.2.2.1 36)), (5, .int v5), (6, .int v6), (7, .int v7), (8, .int v8)] [] := by
  unfold b_X7_copy_147 at hf
  refine qi_iload hC 4 rfl dX7_copy_147 ?_
  refine qi_iload hC 1 rfl dX7_copy_149 ?_
  refine qi_icmp_ge (tgt := 201) hC (by decide) dX7_copy_151 (fun h => ?_) (fun h => ?_)
  · replace hf := qa_if_t h hf
    refine qi_iload hC 1 rfl dX7_copy_201 ?_
    obtain ⟨z, rfl, hg⟩ := qa_inr_e hf; have hf := hg
    obtain rfl := Option.some.inj hf
    exact qi_ireti hC hQ hK dX7_copy_203
  · replace hf := qa_if_f h hf
    refine qi_iload hC 2 rfl dX7_copy_154 ?_
    refine qi_iload hC 3 rfl dX7_copy_156 ?_
    refine qi_icmp_ge (tgt := 171) hC (by decide) dX7_copy_158 (fun h => ?_) (fun h => ?_)
    · replace hf := qa_if_t h hf
      refine qi_iload hC 4 rfl dX7_copy_171 ?_
      exact t_X7_copy_173 hC hQ hf hK
    · replace hf := qa_if_f h hf
      refine qi_iload hC 1 rfl dX7_copy_161 ?_
      refine qi_iconst hC dX7_copy_163 kn_iconst_1 ?_
      refine qi_isub hC dX7_copy_164 ?_
      refine qi_iload hC 4 rfl dX7_copy_165 ?_
      refine qi_isub hC dX7_copy_167 ?_
      refine qi_goto (tgt := 173) hC (by decide) dX7_copy_168 ?_
      exact t_X7_copy_173 hC hQ hf hK
set_option maxRecDepth 100000 in
set_option maxHeartbeats 4000000 in
theorem tn_X7_copy_147 {X : qaX} {l : Launch} {Y : qaY} {fin : Int32 × qaM} (hC : QC X l Y cX7_copy RX7 10 2) (hQ : QRi X Y (some .int) fin.2 fin.1) {v5 : Int32} {v6 : Int32} {v7 : Int32} {z : (Int32 × qaM)} (hK : (qa_eq fin) z) : ∀ (n : Nat) (s : qaM × Int32), qa_lp (fun s => b_X7_copy_147 s.1 v5 v6 v7 s.2) n s = some z → QG X Y 10 s.1 147 [(0, .ref (Y.2.2.1 36)), (5, .int v5), (6, .int v6), (7, .int v7), (8, .int s.2)] [] := by
  intro n
  induction n with
  | zero => intro s hf; cases hf
  | succ n ih =>
    intro s hf
    obtain ⟨y, hy, hf⟩ := qa_lp_e hf
    refine t_X7_copy_147 hC hQ hy ?_
    rcases hf with ⟨s', rfl, hf⟩ | rfl
    · exact ih s' hf
    · exact hK
set_option maxRecDepth 100000 in
set_option maxHeartbeats 4000000 in
theorem tl_X7_copy_147 {X : qaX} {l : Launch} {Y : qaY} {fin : Int32 × qaM} (hC : QC X l Y cX7_copy RX7 10 2) (hQ : QRi X Y (some .int) fin.2 fin.1) {m : qaM} {v5 : Int32} {v6 : Int32} {v7 : Int32} {v8 : Int32} {z : (Int32 × qaM)} (hf : lp_X7_copy_147 m v5 v6 v7 v8 = some z) (hK : (qa_eq fin) z) : QG X Y 10 m 147 [(0, .ref (Y.2.2.1 36)), (5, .int v5), (6, .int v6), (7, .int v7), (8, .int v8)] [] :=
  tn_X7_copy_147 hC hQ hK qa_F (m, v8) hf
set_option maxRecDepth 100000 in
set_option maxHeartbeats 4000000 in
theorem c_X7_copy (l : Launch) (Y : qaY) (m : qaM) (v1 : Int32) (v2 : Int32) (v3 : Int32) (v4 : Int32) (v5 : Int32) (q : Int32 × qaM) (hf : f_X7_copy m v1 v2 v3 v4 v5 = some q) : qaMi l Y yX7_copy cX7_copy 10 (some .int) 2 [.ref (Y.2.2.1 36), .int v1, .int v2, .int v3, .int v4, .int v5] m q.2 q.1 := by
  refine qa_enti (by decide +kernel) (Nat.le_of_ble_eq_true rfl) fun X hC hQ => ?_
  have hK : qa_eq q q := rfl
  unfold f_X7_copy at hf
  refine qi_iload_n hC 1 rfl rfl dX7_copy_0 ?_
  refine qi_iconst hC dX7_copy_1 kn_iconst_0 ?_
  refine qi_iconst hC dX7_copy_2 kn_iconst_3 ?_
  obtain ⟨q1, hq1, hf⟩ := Option.bind_eq_some_iff.mp hf
  refine qi_callSi hC (as := [.int v1, .int (0 : Int32), .int (3 : Int32)]) (c_X7_in _ _ _ _ _ _ _ hq1) kl_X7_90 kc_X7_in rfl rfl (by decide) (by decide) (Nat.le_of_ble_eq_true rfl) dX7_copy_3 ?_
  refine qi_if_eq (tgt := 18) hC (by decide) dX7_copy_6 (fun h => ?_) (fun h => ?_)
  · replace hf := qa_if_t h hf
    refine qi_bipush hC dX7_copy_18 kn_bipush_m2 ?_
    obtain rfl := Option.some.inj hf
    exact qi_ireti hC hQ hK dX7_copy_20
  · replace hf := qa_if_f h hf
    refine qi_iload_n hC 3 rfl rfl dX7_copy_9 ?_
    refine qi_iconst hC dX7_copy_10 kn_iconst_0 ?_
    refine qi_iconst hC dX7_copy_11 kn_iconst_3 ?_
    obtain ⟨q2, hq2, hf⟩ := Option.bind_eq_some_iff.mp hf
    refine qi_callSi hC (as := [.int v3, .int (0 : Int32), .int (3 : Int32)]) (c_X7_in _ _ _ _ _ _ _ hq2) kl_X7_90 kc_X7_in rfl rfl (by decide) (by decide) (Nat.le_of_ble_eq_true rfl) dX7_copy_12 ?_
    refine qi_if_ne (tgt := 21) hC (by decide) dX7_copy_15 (fun h => ?_) (fun h => ?_)
    · replace hf := qa_if_f h hf
      refine qi_aload_n hC 0 rfl rfl dX7_copy_21 ?_
      refine qi_getr hC kf_X7_43 sh_36 rfl dX7_copy_22 ?_
      refine qi_iload_n hC 1 rfl rfl dX7_copy_25 ?_
      obtain ⟨h3, hf⟩ := qa_ck_e hf
      refine qi_iald hC rfl sh_48 (qa_in_v h3) dX7_copy_26 ?_
      refine qi_iconst hC dX7_copy_27 kn_iconst_m1 ?_
      refine qi_icmp_eq (tgt := 41) hC (by decide) dX7_copy_28 (fun h => ?_) (fun h => ?_)
      · replace hf := qa_if_t h hf
        refine qi_bipush hC dX7_copy_41 kn_bipush_m11 ?_
        obtain rfl := Option.some.inj hf
        exact qi_ireti hC hQ hK dX7_copy_43
      · replace hf := qa_if_f h hf
        refine qi_aload_n hC 0 rfl rfl dX7_copy_31 ?_
        refine qi_getr hC kf_X7_43 sh_36 rfl dX7_copy_32 ?_
        refine qi_iload_n hC 3 rfl rfl dX7_copy_35 ?_
        obtain ⟨h4, hf⟩ := qa_ck_e hf
        refine qi_iald hC rfl sh_48 (qa_in_v h4) dX7_copy_36 ?_
        refine qi_iconst hC dX7_copy_37 kn_iconst_m1 ?_
        refine qi_icmp_ne (tgt := 44) hC (by decide) dX7_copy_38 (fun h => ?_) (fun h => ?_)
        · replace hf := qa_if_f h hf
          refine qi_aload_n hC 0 rfl rfl dX7_copy_44 ?_
          refine qi_getr hC kf_X7_43 sh_36 rfl dX7_copy_45 ?_
          refine qi_iload_n hC 1 rfl rfl dX7_copy_48 ?_
          obtain ⟨h5, hf⟩ := qa_ck_e hf
          refine qi_iald hC rfl sh_48 (qa_in_v h5) dX7_copy_49 ?_
          refine qi_aload_n hC 0 rfl rfl dX7_copy_50 ?_
          refine qi_getr hC kf_X7_43 sh_36 rfl dX7_copy_51 ?_
          refine qi_iload_n hC 3 rfl rfl dX7_copy_54 ?_
          obtain ⟨h6, hf⟩ := qa_ck_e hf
          refine qi_iald hC rfl sh_48 (qa_in_v h6) dX7_copy_55 ?_
          refine qi_icmp_eq (tgt := 62) hC (by decide) dX7_copy_56 (fun h => ?_) (fun h => ?_)
          · replace hf := qa_if_t h hf
            refine qi_iload hC 5 rfl dX7_copy_62 ?_
            refine qi_if_lt (tgt := 124) hC (by decide) dX7_copy_64 (fun h => ?_) (fun h => ?_)
            · replace hf := qa_if_t h hf
              refine qi_bipush hC dX7_copy_124 kn_bipush_m12 ?_
              obtain rfl := Option.some.inj hf
              exact qi_ireti hC hQ hK dX7_copy_126
            · replace hf := qa_if_f h hf
              refine qi_iload_n hC 2 rfl rfl dX7_copy_67 ?_
              refine qi_if_lt (tgt := 124) hC (by decide) dX7_copy_68 (fun h => ?_) (fun h => ?_)
              · replace hf := qa_if_t h hf
                refine qi_bipush hC dX7_copy_124 kn_bipush_m12 ?_
                obtain rfl := Option.some.inj hf
                exact qi_ireti hC hQ hK dX7_copy_126
              · replace hf := qa_if_f h hf
                refine qi_iload hC 4 rfl dX7_copy_71 ?_
                refine qi_if_lt (tgt := 124) hC (by decide) dX7_copy_73 (fun h => ?_) (fun h => ?_)
                · replace hf := qa_if_t h hf
                  refine qi_bipush hC dX7_copy_124 kn_bipush_m12 ?_
                  obtain rfl := Option.some.inj hf
                  exact qi_ireti hC hQ hK dX7_copy_126
                · replace hf := qa_if_f h hf
                  refine qi_iload_n hC 2 rfl rfl dX7_copy_76 ?_
                  refine qi_aload_n hC 0 rfl rfl dX7_copy_77 ?_
                  refine qi_getr hC kf_X7_46 sh_36 rfl dX7_copy_78 ?_
                  refine qi_iload_n hC 1 rfl rfl dX7_copy_81 ?_
                  obtain ⟨h7, hf⟩ := qa_ck_e hf
                  refine qi_iald hC rfl sh_49 (qa_in_v h7) dX7_copy_82 ?_
                  refine qi_icmp_gt (tgt := 124) hC (by decide) dX7_copy_83 (fun h => ?_) (fun h => ?_)
                  · replace hf := qa_if_t h hf
                    refine qi_bipush hC dX7_copy_124 kn_bipush_m12 ?_
                    obtain rfl := Option.some.inj hf
                    exact qi_ireti hC hQ hK dX7_copy_126
                  · replace hf := qa_if_f h hf
                    refine qi_iload hC 4 rfl dX7_copy_86 ?_
                    refine qi_aload_n hC 0 rfl rfl dX7_copy_88 ?_
                    refine qi_getr hC kf_X7_46 sh_36 rfl dX7_copy_89 ?_
                    refine qi_iload_n hC 3 rfl rfl dX7_copy_92 ?_
                    obtain ⟨h8, hf⟩ := qa_ck_e hf
                    refine qi_iald hC rfl sh_49 (qa_in_v h8) dX7_copy_93 ?_
                    refine qi_icmp_gt (tgt := 124) hC (by decide) dX7_copy_94 (fun h => ?_) (fun h => ?_)
                    · replace hf := qa_if_t h hf
                      refine qi_bipush hC dX7_copy_124 kn_bipush_m12 ?_
                      obtain rfl := Option.some.inj hf
                      exact qi_ireti hC hQ hK dX7_copy_126
                    · replace hf := qa_if_f h hf
                      refine qi_iload hC 5 rfl dX7_copy_97 ?_
                      refine qi_aload_n hC 0 rfl rfl dX7_copy_99 ?_
                      refine qi_getr hC kf_X7_46 sh_36 rfl dX7_copy_100 ?_
                      refine qi_iload_n hC 1 rfl rfl dX7_copy_103 ?_
                      obtain ⟨h9, hf⟩ := qa_ck_e hf
                      refine qi_iald hC rfl sh_49 (qa_in_v h9) dX7_copy_104 ?_
                      refine qi_iload_n hC 2 rfl rfl dX7_copy_105 ?_
                      refine qi_isub hC dX7_copy_106 ?_
                      refine qi_icmp_gt (tgt := 124) hC (by decide) dX7_copy_107 (fun h => ?_) (fun h => ?_)
                      · replace hf := qa_if_t h hf
                        refine qi_bipush hC dX7_copy_124 kn_bipush_m12 ?_
                        obtain rfl := Option.some.inj hf
                        exact qi_ireti hC hQ hK dX7_copy_126
                      · replace hf := qa_if_f h hf
                        refine qi_iload hC 5 rfl dX7_copy_110 ?_
                        refine qi_aload_n hC 0 rfl rfl dX7_copy_112 ?_
                        refine qi_getr hC kf_X7_46 sh_36 rfl dX7_copy_113 ?_
                        refine qi_iload_n hC 3 rfl rfl dX7_copy_116 ?_
                        obtain ⟨h10, hf⟩ := qa_ck_e hf
                        refine qi_iald hC rfl sh_49 (qa_in_v h10) dX7_copy_117 ?_
                        refine qi_iload hC 4 rfl dX7_copy_118 ?_
                        refine qi_isub hC dX7_copy_120 ?_
                        refine qi_icmp_le (tgt := 127) hC (by decide) dX7_copy_121 (fun h => ?_) (fun h => ?_)
                        · replace hf := qa_if_t h hf
                          refine qi_bipush hC dX7_copy_127 kn_bipush_40 ?_
                          refine qi_iload_n hC 1 rfl rfl dX7_copy_129 ?_
                          refine qi_imul hC dX7_copy_130 ?_
                          refine qi_iload_n hC 2 rfl rfl dX7_copy_131 ?_
                          refine qi_iadd hC dX7_copy_132 ?_
                          obtain ⟨x11, ex11, hf⟩ := qa_lt_e hf
                          refine qi_nmi hC ex11 ?_
                          refine qi_istore hC (by decide) rfl dX7_copy_133 ?_
                          refine qi_bipush hC dX7_copy_135 kn_bipush_40 ?_
                          refine qi_iload_n hC 4 rfl rfl dX7_copy_137 ?_
                          refine qi_imul hC dX7_copy_138 ?_
                          refine qi_iload hC 5 rfl dX7_copy_139 ?_
                          refine qi_iadd hC dX7_copy_141 ?_
                          obtain ⟨x12, ex12, hf⟩ := qa_lt_e hf
                          refine qi_nmi hC ex12 ?_
                          refine qi_istore hC (by decide) rfl dX7_copy_142 ?_
                          refine qi_iconst hC dX7_copy_144 kn_iconst_0 ?_
                          refine qi_istore hC (by decide) rfl dX7_copy_145 ?_
                          refine qi_sub hC [3, 8, 2, 1, 0] rfl ?_
                          exact tl_X7_copy_147 hC hQ hf hK
                        · replace hf := qa_if_f h hf
                          refine qi_bipush hC dX7_copy_124 kn_bipush_m12 ?_
                          obtain rfl := Option.some.inj hf
                          exact qi_ireti hC hQ hK dX7_copy_126
          · replace hf := qa_if_f h hf
            refine qi_bipush hC dX7_copy_59 kn_bipush_m13 ?_
            obtain rfl := Option.some.inj hf
            exact qi_ireti hC hQ hK dX7_copy_61
        · replace hf := qa_if_t h hf
          refine qi_bipush hC dX7_copy_41 kn_bipush_m11 ?_
          obtain rfl := Option.some.inj hf
          exact qi_ireti hC hQ hK dX7_copy_43
    · replace hf := qa_if_t h hf
      refine qi_bipush hC dX7_copy_18 kn_bipush_m2 ?_
      obtain rfl := Option.some.inj hf
      exact qi_ireti hC hQ hK dX7_copy_20
set_option maxRecDepth 100000 in
set_option maxHeartbeats 4000000 in
theorem t_X7_buyBy_144 {X : qaX} {l : Launch} {Y : qaY} {fin : Int32 × qaM} (hC : QC X l Y cX7_buyBy RX7 9 4) (hQ : QRi X Y (some .int) fin.2 fin.1) {m : qaM} {v1 : Int32} {v3 : Int32} {v4 : Int32} {v6 : Int32} {s0 : Int32} {s1 : Int32} {z : ((qaM × Int32 × Int32) ⊕ (Int32 × qaM))} (hf : b_X7_buyBy_144 m v1 v3 v4 v6 s0 s1 = some z) (hK : (qa_K (fun s => QG X Y 9 s.1 64 [(0, .ref (Y.2.2.1 36)), (1, .int v1), (3, .int v3), (4, .int v4), (5, .int s.2.1), (6, .int s.2.2)] []) (qa_eq fin)) z) : QG X Y 9 m 144 [(0, .ref (Y.2.2.1 36)), (1, .int v1), (3, .int v3), (4, .int v4), (6, .int v6)] [.int s1, .int s0] := by
  unfold b_X7_buyBy_144 at hf
  refine qi_iadd hC dX7_buyBy_144 ?_
  obtain ⟨x12, ex12, hf⟩ := qa_lt_e hf
  refine qi_nmi hC ex12 ?_
  refine qi_istore hC (by decide) rfl dX7_buyBy_145 ?_
  obtain ⟨x13, ex13, hf⟩ := qa_lt_e hf
  refine qi_iinc hC (n := 1) (v := x13) 5 rfl ((congrArg (fun q => v6 + q) kn_iconst_1).trans ex13.symm) (by decide) rfl dX7_buyBy_147 ?_
  refine qi_goto (tgt := 64) hC (by decide) dX7_buyBy_150 ?_
  obtain rfl := Option.some.inj hf
  refine qi_sub hC [2, 3, 4, 5, 1, 0] rfl ?_
  exact hK
set_option maxRecDepth 100000 in
set_option maxHeartbeats 4000000 in
theorem t_X7_buyBy_64 {X : qaX} {l : Launch} {Y : qaY} {fin : Int32 × qaM} (hC : QC X l Y cX7_buyBy RX7 9 4) (hQ : QRi X Y (some .int) fin.2 fin.1) {m : qaM} {v1 : Int32} {v3 : Int32} {v4 : Int32} {v5 : Int32} {v6 : Int32} {z : ((qaM × Int32 × Int32) ⊕ (Int32 × qaM))} (hf : b_X7_buyBy_64 m v1 v3 v4 v5 v6 = some z) (hK : (qa_K (fun s => QG X Y 9 s.1 64 [(0, .ref (Y.2.2.1 36)), (1, .int v1), (3, .int v3), (4, .int v4), (5, .int s.2.1), (6, .int s.2.2)] []) (qa_eq fin)) z) : QG X Y 9 m 64 [(0, .ref (Y.2.2.1 36)), (1, .int v1), (3, .int v3), (4, .int v4), (5, .int v5), (6, .int v6)] [] := by
  unfold b_X7_buyBy_64 at hf
  refine qi_iload hC 5 rfl dX7_buyBy_64 ?_
  refine qi_iload hC 3 rfl dX7_buyBy_66 ?_
  refine qi_icmp_ge (tgt := 153) hC (by decide) dX7_buyBy_68 (fun h => ?_) (fun h => ?_)
  · replace hf := qa_if_t h hf
    refine qi_iload hC 4 rfl dX7_buyBy_153 ?_
    obtain ⟨z, rfl, hg⟩ := qa_inr_e hf; have hf := hg
    obtain rfl := Option.some.inj hf
    exact qi_ireti hC hQ hK dX7_buyBy_155
  · replace hf := qa_if_f h hf
    refine qi_iload_n hC 2 rfl rfl dX7_buyBy_71 ?_
    refine qi_iconst hC dX7_buyBy_72 kn_iconst_2 ?_
    refine qi_iload hC 5 rfl dX7_buyBy_73 ?_
    refine qi_imul hC dX7_buyBy_75 ?_
    refine qi_iadd hC dX7_buyBy_76 ?_
    obtain ⟨x6, ex6, hf⟩ := qa_lt_e hf
    refine qi_nmi hC ex6 ?_
    refine qi_istore hC (by decide) rfl dX7_buyBy_77 ?_
    refine qi_iload_n hC 3 rfl rfl dX7_buyBy_79 ?_
    refine qi_if_lt (tgt := 102) hC (by decide) dX7_buyBy_80 (fun h => ?_) (fun h => ?_)
    · replace hf := qa_if_t h hf
      refine qi_bipush hC dX7_buyBy_102 kn_bipush_m12 ?_
      obtain ⟨z, rfl, hg⟩ := qa_inr_e hf; have hf := hg
      obtain rfl := Option.some.inj hf
      exact qi_ireti hC hQ hK dX7_buyBy_104
    · replace hf := qa_if_f h hf
      refine qi_iload hC 0 rfl dX7_buyBy_83 ?_
      refine qi_iload_n hC 3 rfl rfl dX7_buyBy_85 ?_
      refine qi_icmp_lt (tgt := 102) hC (by decide) dX7_buyBy_86 (fun h => ?_) (fun h => ?_)
      · replace hf := qa_if_t h hf
        refine qi_bipush hC dX7_buyBy_102 kn_bipush_m12 ?_
        obtain ⟨z, rfl, hg⟩ := qa_inr_e hf; have hf := hg
        obtain rfl := Option.some.inj hf
        exact qi_ireti hC hQ hK dX7_buyBy_104
      · replace hf := qa_if_f h hf
        refine qi_iload hC 0 rfl dX7_buyBy_89 ?_
        refine qi_aload_n hC 1 rfl rfl dX7_buyBy_91 ?_
        refine qi_getr hC kf_X7_46 sh_36 rfl dX7_buyBy_92 ?_
        refine qi_iload_n hC 2 rfl rfl dX7_buyBy_95 ?_
        obtain ⟨h7, hf⟩ := qa_ck_e hf
        refine qi_iald hC rfl sh_49 (qa_in_v h7) dX7_buyBy_96 ?_
        refine qi_iconst hC dX7_buyBy_97 kn_iconst_2 ?_
        refine qi_isub hC dX7_buyBy_98 ?_
        refine qi_icmp_le (tgt := 105) hC (by decide) dX7_buyBy_99 (fun h => ?_) (fun h => ?_)
        · replace hf := qa_if_t h hf
          refine qi_bipush hC dX7_buyBy_105 kn_bipush_40 ?_
          refine qi_iload_n hC 2 rfl rfl dX7_buyBy_107 ?_
          refine qi_imul hC dX7_buyBy_108 ?_
          refine qi_iload hC 0 rfl dX7_buyBy_109 ?_
          refine qi_iadd hC dX7_buyBy_111 ?_
          obtain ⟨x8, ex8, hf⟩ := qa_lt_e hf
          refine qi_nmi hC ex8 ?_
          refine qi_istore hC (by decide) rfl dX7_buyBy_112 ?_
          refine qi_iload hC 6 rfl dX7_buyBy_114 ?_
          refine qi_aload_n hC 2 rfl rfl dX7_buyBy_116 ?_
          refine qi_aload_n hC 2 rfl rfl dX7_buyBy_117 ?_
          refine qi_getr hC kf_X7_49 sh_36 rfl dX7_buyBy_118 ?_
          refine qi_iload hC 0 rfl dX7_buyBy_121 ?_
          obtain ⟨h9, hf⟩ := qa_ck_e hf
          refine qi_iald hC rfl sh_50 (qa_in_v h9) dX7_buyBy_123 ?_
          refine qi_aload_n hC 2 rfl rfl dX7_buyBy_124 ?_
          refine qi_getr hC kf_X7_49 sh_36 rfl dX7_buyBy_125 ?_
          refine qi_iload hC 0 rfl dX7_buyBy_128 ?_
          refine qi_iconst hC dX7_buyBy_130 kn_iconst_1 ?_
          refine qi_iadd hC dX7_buyBy_131 ?_
          obtain ⟨h10, hf⟩ := qa_ck_e hf
          refine qi_iald hC rfl sh_50 (qa_in_v h10) dX7_buyBy_132 ?_
          obtain ⟨q11, hq11, hf⟩ := Option.bind_eq_some_iff.mp hf
          refine qi_callVi hC (as := [.int (m 50 x8.toNatClampNeg), .int (m 50 (x8 + (1 : Int32)).toNatClampNeg)]) (c_X7_buy _ _ _ _ _ _ hq11) kl_X7_332 sh_36 kc_X7_buy rfl rfl (by decide) (by decide) (Nat.le_of_ble_eq_true rfl) dX7_buyBy_133 ?_
          refine qi_if_lt (tgt := 143) hC (by decide) dX7_buyBy_136 (fun h => ?_) (fun h => ?_)
          · replace hf := qa_if_t h hf
            refine qi_iconst hC dX7_buyBy_143 kn_iconst_0 ?_
            refine qi_sub hC [2, 3, 4, 5, 7] rfl ?_
            exact t_X7_buyBy_144 hC hQ hf hK
          · replace hf := qa_if_f h hf
            refine qi_iconst hC dX7_buyBy_139 kn_iconst_1 ?_
            refine qi_goto (tgt := 144) hC (by decide) dX7_buyBy_140 ?_
            refine qi_sub hC [2, 3, 4, 5, 7] rfl ?_
            exact t_X7_buyBy_144 hC hQ hf hK
        · replace hf := qa_if_f h hf
          refine qi_bipush hC dX7_buyBy_102 kn_bipush_m12 ?_
          obtain ⟨z, rfl, hg⟩ := qa_inr_e hf; have hf := hg
          obtain rfl := Option.some.inj hf
          exact qi_ireti hC hQ hK dX7_buyBy_104
set_option maxRecDepth 100000 in
set_option maxHeartbeats 4000000 in
theorem tn_X7_buyBy_64 {X : qaX} {l : Launch} {Y : qaY} {fin : Int32 × qaM} (hC : QC X l Y cX7_buyBy RX7 9 4) (hQ : QRi X Y (some .int) fin.2 fin.1) {v1 : Int32} {v3 : Int32} {v4 : Int32} {z : (Int32 × qaM)} (hK : (qa_eq fin) z) : ∀ (n : Nat) (s : qaM × Int32 × Int32), qa_lp (fun s => b_X7_buyBy_64 s.1 v1 v3 v4 s.2.1 s.2.2) n s = some z → QG X Y 9 s.1 64 [(0, .ref (Y.2.2.1 36)), (1, .int v1), (3, .int v3), (4, .int v4), (5, .int s.2.1), (6, .int s.2.2)] [] := by
  intro n
  induction n with
  | zero => intro s hf; cases hf
  | succ n ih =>
    intro s hf
    obtain ⟨y, hy, hf⟩ := qa_lp_e hf
    refine t_X7_buyBy_64 hC hQ hy ?_
    rcases hf with ⟨s', rfl, hf⟩ | rfl
    · exact ih s' hf
    · exact hK
set_option maxRecDepth 100000 in
set_option maxHeartbeats 4000000 in
theorem tl_X7_buyBy_64 {X : qaX} {l : Launch} {Y : qaY} {fin : Int32 × qaM} (hC : QC X l Y cX7_buyBy RX7 9 4) (hQ : QRi X Y (some .int) fin.2 fin.1) {m : qaM} {v1 : Int32} {v3 : Int32} {v4 : Int32} {v5 : Int32} {v6 : Int32} {z : (Int32 × qaM)} (hf : lp_X7_buyBy_64 m v1 v3 v4 v5 v6 = some z) (hK : (qa_eq fin) z) : QG X Y 9 m 64 [(0, .ref (Y.2.2.1 36)), (1, .int v1), (3, .int v3), (4, .int v4), (5, .int v5), (6, .int v6)] [] :=
  tn_X7_buyBy_64 hC hQ hK qa_F (m, v5, v6) hf
set_option maxRecDepth 100000 in
set_option maxHeartbeats 4000000 in
theorem c_X7_buyBy (l : Launch) (Y : qaY) (m : qaM) (v1 : Int32) (v2 : Int32) (v3 : Int32) (v4 : Int32) (q : Int32 × qaM) (hf : f_X7_buyBy m v1 v2 v3 v4 = some q) : qaMi l Y yX7_buyBy cX7_buyBy 9 (some .int) 4 [.ref (Y.2.2.1 36), .int v1, .int v2, .int v3, .int v4] m q.2 q.1 := by
  refine qa_enti (by decide +kernel) (Nat.le_of_ble_eq_true rfl) fun X hC hQ => ?_
  have hK : qa_eq q q := rfl
  unfold f_X7_buyBy at hf
  refine qi_iload_n hC 1 rfl rfl dX7_buyBy_0 ?_
  refine qi_iconst hC dX7_buyBy_1 kn_iconst_0 ?_
  refine qi_iconst hC dX7_buyBy_2 kn_iconst_3 ?_
  obtain ⟨q1, hq1, hf⟩ := Option.bind_eq_some_iff.mp hf
  refine qi_callSi hC (as := [.int v1, .int (0 : Int32), .int (3 : Int32)]) (c_X7_in _ _ _ _ _ _ _ hq1) kl_X7_90 kc_X7_in rfl rfl (by decide) (by decide) (Nat.le_of_ble_eq_true rfl) dX7_buyBy_3 ?_
  refine qi_if_eq (tgt := 29) hC (by decide) dX7_buyBy_6 (fun h => ?_) (fun h => ?_)
  · replace hf := qa_if_t h hf
    refine qi_bipush hC dX7_buyBy_29 kn_bipush_m2 ?_
    obtain rfl := Option.some.inj hf
    exact qi_ireti hC hQ hK dX7_buyBy_31
  · replace hf := qa_if_f h hf
    refine qi_iload_n hC 2 rfl rfl dX7_buyBy_9 ?_
    refine qi_iconst hC dX7_buyBy_10 kn_iconst_0 ?_
    refine qi_iconst hC dX7_buyBy_11 kn_iconst_2 ?_
    obtain ⟨q2, hq2, hf⟩ := Option.bind_eq_some_iff.mp hf
    refine qi_callSi hC (as := [.int v2, .int (0 : Int32), .int (2 : Int32)]) (c_X7_in _ _ _ _ _ _ _ hq2) kl_X7_90 kc_X7_in rfl rfl (by decide) (by decide) (Nat.le_of_ble_eq_true rfl) dX7_buyBy_12 ?_
    refine qi_if_eq (tgt := 29) hC (by decide) dX7_buyBy_15 (fun h => ?_) (fun h => ?_)
    · replace hf := qa_if_t h hf
      refine qi_bipush hC dX7_buyBy_29 kn_bipush_m2 ?_
      obtain rfl := Option.some.inj hf
      exact qi_ireti hC hQ hK dX7_buyBy_31
    · replace hf := qa_if_f h hf
      refine qi_iload hC 4 rfl dX7_buyBy_18 ?_
      refine qi_iconst hC dX7_buyBy_20 kn_iconst_0 ?_
      refine qi_bipush hC dX7_buyBy_21 kn_bipush_8 ?_
      obtain ⟨q3, hq3, hf⟩ := Option.bind_eq_some_iff.mp hf
      refine qi_callSi hC (as := [.int v4, .int (0 : Int32), .int (8 : Int32)]) (c_X7_in _ _ _ _ _ _ _ hq3) kl_X7_90 kc_X7_in rfl rfl (by decide) (by decide) (Nat.le_of_ble_eq_true rfl) dX7_buyBy_23 ?_
      refine qi_if_ne (tgt := 32) hC (by decide) dX7_buyBy_26 (fun h => ?_) (fun h => ?_)
      · replace hf := qa_if_f h hf
        refine qi_aload_n hC 0 rfl rfl dX7_buyBy_32 ?_
        refine qi_getr hC kf_X7_43 sh_36 rfl dX7_buyBy_33 ?_
        refine qi_iload_n hC 1 rfl rfl dX7_buyBy_36 ?_
        obtain ⟨h4, hf⟩ := qa_ck_e hf
        refine qi_iald hC rfl sh_48 (qa_in_v h4) dX7_buyBy_37 ?_
        refine qi_iconst hC dX7_buyBy_38 kn_iconst_m1 ?_
        refine qi_icmp_ne (tgt := 45) hC (by decide) dX7_buyBy_39 (fun h => ?_) (fun h => ?_)
        · replace hf := qa_if_f h hf
          refine qi_aload_n hC 0 rfl rfl dX7_buyBy_45 ?_
          refine qi_getr hC kf_X7_43 sh_36 rfl dX7_buyBy_46 ?_
          refine qi_iload_n hC 1 rfl rfl dX7_buyBy_49 ?_
          obtain ⟨h5, hf⟩ := qa_ck_e hf
          refine qi_iald hC rfl sh_48 (qa_in_v h5) dX7_buyBy_50 ?_
          refine qi_iload_n hC 2 rfl rfl dX7_buyBy_51 ?_
          refine qi_icmp_eq (tgt := 58) hC (by decide) dX7_buyBy_52 (fun h => ?_) (fun h => ?_)
          · replace hf := qa_if_t h hf
            refine qi_iconst hC dX7_buyBy_58 kn_iconst_0 ?_
            refine qi_istore hC (by decide) rfl dX7_buyBy_59 ?_
            refine qi_iconst hC dX7_buyBy_61 kn_iconst_0 ?_
            refine qi_istore hC (by decide) rfl dX7_buyBy_62 ?_
            refine qi_sub hC [2, 3, 5, 6, 1, 0] rfl ?_
            exact tl_X7_buyBy_64 hC hQ hf hK
          · replace hf := qa_if_f h hf
            refine qi_bipush hC dX7_buyBy_55 kn_bipush_m13 ?_
            obtain rfl := Option.some.inj hf
            exact qi_ireti hC hQ hK dX7_buyBy_57
        · replace hf := qa_if_t h hf
          refine qi_bipush hC dX7_buyBy_42 kn_bipush_m11 ?_
          obtain rfl := Option.some.inj hf
          exact qi_ireti hC hQ hK dX7_buyBy_44
      · replace hf := qa_if_t h hf
        refine qi_bipush hC dX7_buyBy_29 kn_bipush_m2 ?_
        obtain rfl := Option.some.inj hf
        exact qi_ireti hC hQ hK dX7_buyBy_31
set_option maxRecDepth 100000 in
set_option maxHeartbeats 4000000 in
theorem t_X7_isUnder_29 {X : qaX} {l : Launch} {Y : qaY} {fin : Int32} {m : qaM} (hC : QC X l Y cX7_isUnder RX7 2 1) (hQ : QRi X Y (some .boolean) m fin) {z : (Int32)} (hf : b_X7_isUnder_29 m = some z) (hK : (qa_eq fin) z) : QG X Y 2 m 29 [] [] := by
  unfold b_X7_isUnder_29 at hf
  refine qi_iconst hC dX7_isUnder_29 kn_iconst_1 ?_
  refine qi_goto (tgt := 34) hC (by decide) dX7_isUnder_30 ?_
  obtain rfl := Option.some.inj hf
  exact qi_iretz hC hQ (congrArg (fun w => (w, m)) hK) rfl dX7_isUnder_34
set_option maxRecDepth 100000 in
set_option maxHeartbeats 4000000 in
theorem t_X7_isUnder_19 {X : qaX} {l : Launch} {Y : qaY} {fin : Int32} {m : qaM} (hC : QC X l Y cX7_isUnder RX7 2 1) (hQ : QRi X Y (some .boolean) m fin) {v0 : Int32} {v1 : Int32} {z : (Int32)} (hf : b_X7_isUnder_19 m v0 v1 = some z) (hK : (qa_eq fin) z) : QG X Y 2 m 19 [(0, .int v0), (1, .int v1)] [] := by
  unfold b_X7_isUnder_19 at hf
  refine qi_iload_n hC 1 rfl rfl dX7_isUnder_19 ?_
  refine qi_iconst hC dX7_isUnder_20 kn_iconst_2 ?_
  refine qi_icmp_ne (tgt := 33) hC (by decide) dX7_isUnder_21 (fun h => ?_) (fun h => ?_)
  · replace hf := qa_if_f h hf
    refine qi_iconst hC dX7_isUnder_33 kn_iconst_0 ?_
    obtain rfl := Option.some.inj hf
    exact qi_iretz hC hQ (congrArg (fun w => (w, m)) hK) rfl dX7_isUnder_34
  · replace hf := qa_if_t h hf
    refine qi_iload_n hC 0 rfl rfl dX7_isUnder_24 ?_
    refine qi_iconst hC dX7_isUnder_25 kn_iconst_4 ?_
    refine qi_icmp_ne (tgt := 33) hC (by decide) dX7_isUnder_26 (fun h => ?_) (fun h => ?_)
    · replace hf := qa_if_f h hf
      refine qi_iconst hC dX7_isUnder_33 kn_iconst_0 ?_
      obtain rfl := Option.some.inj hf
      exact qi_iretz hC hQ (congrArg (fun w => (w, m)) hK) rfl dX7_isUnder_34
    · replace hf := qa_if_t h hf
      refine qi_sub hC [] rfl ?_
      exact t_X7_isUnder_29 hC hQ hf hK
set_option maxRecDepth 100000 in
set_option maxHeartbeats 4000000 in
theorem c_X7_isUnder (l : Launch) (Y : qaY) (m : qaM) (v0 : Int32) (v1 : Int32) (q : Int32) (hf : f_X7_isUnder m v0 v1 = some q) : qaMi l Y yX7_isUnder cX7_isUnder 2 (some .boolean) 1 [.int v0, .int v1] m m q := by
  refine qa_enti (by decide +kernel) (Nat.le_of_ble_eq_true rfl) fun X hC hQ => ?_
  have hK : qa_eq q q := rfl
  unfold f_X7_isUnder at hf
  refine qi_iload_n hC 1 rfl rfl dX7_isUnder_0 ?_
  refine qi_if_eq (tgt := 29) hC (by decide) dX7_isUnder_1 (fun h => ?_) (fun h => ?_)
  · replace hf := qa_if_t h hf
    refine qi_sub hC [] rfl ?_
    exact t_X7_isUnder_29 hC hQ hf hK
  · replace hf := qa_if_f h hf
    refine qi_iload_n hC 0 rfl rfl dX7_isUnder_4 ?_
    refine qi_iload_n hC 1 rfl rfl dX7_isUnder_5 ?_
    refine qi_icmp_eq (tgt := 29) hC (by decide) dX7_isUnder_6 (fun h => ?_) (fun h => ?_)
    · replace hf := qa_if_t h hf
      refine qi_sub hC [] rfl ?_
      exact t_X7_isUnder_29 hC hQ hf hK
    · replace hf := qa_if_f h hf
      refine qi_iload_n hC 1 rfl rfl dX7_isUnder_9 ?_
      refine qi_iconst hC dX7_isUnder_10 kn_iconst_1 ?_
      refine qi_icmp_ne (tgt := 19) hC (by decide) dX7_isUnder_11 (fun h => ?_) (fun h => ?_)
      · replace hf := qa_if_f h hf
        exact t_X7_isUnder_19 hC hQ hf hK
      · replace hf := qa_if_t h hf
        refine qi_iload_n hC 0 rfl rfl dX7_isUnder_14 ?_
        refine qi_iconst hC dX7_isUnder_15 kn_iconst_3 ?_
        refine qi_icmp_eq (tgt := 29) hC (by decide) dX7_isUnder_16 (fun h => ?_) (fun h => ?_)
        · replace hf := qa_if_t h hf
          refine qi_sub hC [] rfl ?_
          exact t_X7_isUnder_29 hC hQ hf hK
        · replace hf := qa_if_f h hf
          exact t_X7_isUnder_19 hC hQ hf hK
set_option maxRecDepth 100000 in
set_option maxHeartbeats 4000000 in
theorem c_X7_taken (l : Launch) (Y : qaY) (m : qaM) (v1 : Int32) (v2 : Int32) (q : Int32) (hf : f_X7_taken m v1 v2 = some q) : qaMi l Y yX7_taken cX7_taken 3 (some .int) 2 [.ref (Y.2.2.1 36), .int v1, .int v2] m m q := by
  refine qa_enti (by decide +kernel) (Nat.le_of_ble_eq_true rfl) fun X hC hQ => ?_
  have hK : qa_eq q q := rfl
  unfold f_X7_taken at hf
  refine qi_iload_n hC 2 rfl rfl dX7_taken_0 ?_
  refine qi_iconst hC dX7_taken_1 kn_iconst_0 ?_
  refine qi_bipush hC dX7_taken_2 kn_bipush_6 ?_
  obtain ⟨q1, hq1, hf⟩ := Option.bind_eq_some_iff.mp hf
  refine qi_callSi hC (as := [.int v2, .int (0 : Int32), .int (6 : Int32)]) (c_X7_in _ _ _ _ _ _ _ hq1) kl_X7_90 kc_X7_in rfl rfl (by decide) (by decide) (Nat.le_of_ble_eq_true rfl) dX7_taken_4 ?_
  refine qi_if_ne (tgt := 13) hC (by decide) dX7_taken_7 (fun h => ?_) (fun h => ?_)
  · replace hf := qa_if_f h hf
    refine qi_iload_n hC 1 rfl rfl dX7_taken_13 ?_
    refine qi_iconst hC dX7_taken_14 kn_iconst_0 ?_
    refine qi_bipush hC dX7_taken_15 kn_bipush_15 ?_
    obtain ⟨q2, hq2, hf⟩ := Option.bind_eq_some_iff.mp hf
    refine qi_callSi hC (as := [.int v1, .int (0 : Int32), .int (15 : Int32)]) (c_X7_in _ _ _ _ _ _ _ hq2) kl_X7_90 kc_X7_in rfl rfl (by decide) (by decide) (Nat.le_of_ble_eq_true rfl) dX7_taken_17 ?_
    refine qi_if_ne (tgt := 26) hC (by decide) dX7_taken_20 (fun h => ?_) (fun h => ?_)
    · replace hf := qa_if_f h hf
      refine qi_iload_n hC 1 rfl rfl dX7_taken_26 ?_
      refine qi_bipush hC dX7_taken_27 kn_bipush_8 ?_
      refine qi_icmp_lt (tgt := 72) hC (by decide) dX7_taken_29 (fun h => ?_) (fun h => ?_)
      · replace hf := qa_if_t h hf
        refine qi_iload_n hC 1 rfl rfl dX7_taken_72 ?_
        refine qi_aload_n hC 0 rfl rfl dX7_taken_73 ?_
        refine qi_geti hC kf_X7_94 sh_36 rfl dX7_taken_74 ?_
        refine qi_icmp_lt (tgt := 85) hC (by decide) dX7_taken_77 (fun h => ?_) (fun h => ?_)
        · replace hf := qa_if_t h hf
          refine qi_iload_n hC 2 rfl rfl dX7_taken_85 ?_
          refine qi_bipush hC dX7_taken_86 kn_bipush_6 ?_
          refine qi_icmp_ge (tgt := 118) hC (by decide) dX7_taken_88 (fun h => ?_) (fun h => ?_)
          · replace hf := qa_if_t h hf
            refine qi_bipush hC dX7_taken_118 kn_bipush_m13 ?_
            obtain rfl := Option.some.inj hf
            exact qi_ireti hC hQ (congrArg (fun w => (w, m)) hK) dX7_taken_120
          · replace hf := qa_if_f h hf
            refine qi_aload_n hC 0 rfl rfl dX7_taken_91 ?_
            refine qi_getr hC kf_X7_7 sh_36 rfl dX7_taken_92 ?_
            refine qi_aload_n hC 0 rfl rfl dX7_taken_95 ?_
            refine qi_getr hC kf_X7_19 sh_36 rfl dX7_taken_96 ?_
            refine qi_iload_n hC 1 rfl rfl dX7_taken_99 ?_
            obtain ⟨h3, hf⟩ := qa_ck_e hf
            refine qi_iald hC rfl sh_40 (qa_in_v h3) dX7_taken_100 ?_
            obtain ⟨h4, hf⟩ := qa_ck_e hf
            refine qi_iald hC rfl sh_37 (qa_in_v h4) dX7_taken_101 ?_
            refine qi_iload_n hC 2 rfl rfl dX7_taken_102 ?_
            obtain ⟨q5, hq5, hf⟩ := Option.bind_eq_some_iff.mp hf
            refine qi_callSi hC (as := [.int (m 37 (m 40 v1.toNatClampNeg).toNatClampNeg), .int v2]) (c_X7_isUnder _ _ _ _ _ _ hq5) kl_X7_335 kc_X7_isUnder rfl rfl (by decide) (by decide) (Nat.le_of_ble_eq_true rfl) dX7_taken_103 ?_
            refine qi_if_eq (tgt := 118) hC (by decide) dX7_taken_106 (fun h => ?_) (fun h => ?_)
            · replace hf := qa_if_t h hf
              refine qi_bipush hC dX7_taken_118 kn_bipush_m13 ?_
              obtain rfl := Option.some.inj hf
              exact qi_ireti hC hQ (congrArg (fun w => (w, m)) hK) dX7_taken_120
            · replace hf := qa_if_f h hf
              refine qi_aload_n hC 0 rfl rfl dX7_taken_109 ?_
              refine qi_getr hC kf_X7_19 sh_36 rfl dX7_taken_110 ?_
              refine qi_iload_n hC 1 rfl rfl dX7_taken_113 ?_
              obtain ⟨h6, hf⟩ := qa_ck_e hf
              refine qi_iald hC rfl sh_40 (qa_in_v h6) dX7_taken_114 ?_
              refine qi_goto (tgt := 120) hC (by decide) dX7_taken_115 ?_
              obtain rfl := Option.some.inj hf
              exact qi_ireti hC hQ (congrArg (fun w => (w, m)) hK) dX7_taken_120
        · replace hf := qa_if_f h hf
          refine qi_bipush hC dX7_taken_80 kn_bipush_m11 ?_
          refine qi_goto (tgt := 120) hC (by decide) dX7_taken_82 ?_
          obtain rfl := Option.some.inj hf
          exact qi_ireti hC hQ (congrArg (fun w => (w, m)) hK) dX7_taken_120
      · replace hf := qa_if_f h hf
        refine qi_iload_n hC 1 rfl rfl dX7_taken_32 ?_
        refine qi_bipush hC dX7_taken_33 kn_bipush_8 ?_
        refine qi_isub hC dX7_taken_35 ?_
        refine qi_aload_n hC 0 rfl rfl dX7_taken_36 ?_
        refine qi_geti hC kf_X7_87 sh_36 rfl dX7_taken_37 ?_
        refine qi_icmp_lt (tgt := 48) hC (by decide) dX7_taken_40 (fun h => ?_) (fun h => ?_)
        · replace hf := qa_if_t h hf
          refine qi_iload_n hC 2 rfl rfl dX7_taken_48 ?_
          refine qi_bipush hC dX7_taken_49 kn_bipush_6 ?_
          refine qi_icmp_ne (tgt := 69) hC (by decide) dX7_taken_51 (fun h => ?_) (fun h => ?_)
          · replace hf := qa_if_f h hf
            refine qi_bipush hC dX7_taken_69 kn_bipush_m13 ?_
            obtain rfl := Option.some.inj hf
            exact qi_ireti hC hQ (congrArg (fun w => (w, m)) hK) dX7_taken_71
          · replace hf := qa_if_t h hf
            refine qi_aload_n hC 0 rfl rfl dX7_taken_54 ?_
            refine qi_getr hC kf_X7_16 sh_36 rfl dX7_taken_55 ?_
            refine qi_bipush hC dX7_taken_58 kn_bipush_6 ?_
            refine qi_iload_n hC 1 rfl rfl dX7_taken_60 ?_
            refine qi_bipush hC dX7_taken_61 kn_bipush_8 ?_
            refine qi_isub hC dX7_taken_63 ?_
            refine qi_imul hC dX7_taken_64 ?_
            obtain ⟨h7, hf⟩ := qa_ck_e hf
            refine qi_iald hC rfl sh_39 (qa_in_v h7) dX7_taken_65 ?_
            refine qi_goto (tgt := 71) hC (by decide) dX7_taken_66 ?_
            obtain rfl := Option.some.inj hf
            exact qi_ireti hC hQ (congrArg (fun w => (w, m)) hK) dX7_taken_71
        · replace hf := qa_if_f h hf
          refine qi_bipush hC dX7_taken_43 kn_bipush_m11 ?_
          refine qi_goto (tgt := 71) hC (by decide) dX7_taken_45 ?_
          obtain rfl := Option.some.inj hf
          exact qi_ireti hC hQ (congrArg (fun w => (w, m)) hK) dX7_taken_71
    · replace hf := qa_if_t h hf
      refine qi_bipush hC dX7_taken_23 kn_bipush_m12 ?_
      obtain rfl := Option.some.inj hf
      exact qi_ireti hC hQ (congrArg (fun w => (w, m)) hK) dX7_taken_25
  · replace hf := qa_if_t h hf
    refine qi_bipush hC dX7_taken_10 kn_bipush_m2 ?_
    obtain rfl := Option.some.inj hf
    exact qi_ireti hC hQ (congrArg (fun w => (w, m)) hK) dX7_taken_12
