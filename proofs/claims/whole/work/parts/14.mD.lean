/-! THE MACHINE DOES WHAT THE FUNCTIONS SAY, laid by program -/
set_option maxRecDepth 100000 in
set_option maxHeartbeats 4000000 in
theorem c_X6_count (l : Launch) (Y : qaY) (m : qaM) (v1 : Int32) (q : Int32) (hf : f_X6_count m v1 = some q) : qaMi l Y yX6_count cX6_count 2 (some .int) 1 [.ref (Y.2.2.1 0), .int v1] m m q := by
  refine qa_enti (by decide +kernel) (Nat.le_of_ble_eq_true rfl) fun X hC hQ => ?_
  have hK : qa_eq q q := rfl
  unfold f_X6_count at hf
  refine qi_iload_n hC 1 rfl rfl dX6_count_0 ?_
  by_cases h1 : v1 = (0 : Int32)
  · replace hf := qa_if_t h1 hf
    refine qi_tabIn (tgt := 56) (off := 55) hC dX6_count_1 (by rw [h1] <;> decide) (by rw [h1] <;> decide) (by rw [h1] <;> decide) (by decide) ?_
    refine qi_aload_n hC 0 rfl rfl dX6_count_56 ?_
    refine qi_getr hC kf_X6_28 sh_0 rfl dX6_count_57 ?_
    refine qi_getr hC kf_X6_52 sh_8 rfl dX6_count_60 ?_
    refine qi_geti hC kf_X6_56 sh_9 rfl dX6_count_63 ?_
    obtain rfl := Option.some.inj hf
    exact qi_ireti hC hQ (congrArg (fun w => (w, m)) hK) dX6_count_66
  replace hf := qa_if_f h1 hf
  by_cases h2 : v1 = (1 : Int32)
  · replace hf := qa_if_t h2 hf
    refine qi_tabIn (tgt := 67) (off := 66) hC dX6_count_1 (by rw [h2] <;> decide) (by rw [h2] <;> decide) (by rw [h2] <;> decide) (by decide) ?_
    refine qi_aload_n hC 0 rfl rfl dX6_count_67 ?_
    refine qi_getr hC kf_X6_28 sh_0 rfl dX6_count_68 ?_
    refine qi_getr hC kf_X6_62 sh_8 rfl dX6_count_71 ?_
    refine qi_geti hC kf_X6_66 sh_11 rfl dX6_count_74 ?_
    obtain rfl := Option.some.inj hf
    exact qi_ireti hC hQ (congrArg (fun w => (w, m)) hK) dX6_count_77
  replace hf := qa_if_f h2 hf
  by_cases h3 : v1 = (2 : Int32)
  · replace hf := qa_if_t h3 hf
    refine qi_tabIn (tgt := 78) (off := 77) hC dX6_count_1 (by rw [h3] <;> decide) (by rw [h3] <;> decide) (by rw [h3] <;> decide) (by decide) ?_
    refine qi_aload_n hC 0 rfl rfl dX6_count_78 ?_
    refine qi_getr hC kf_X6_28 sh_0 rfl dX6_count_79 ?_
    refine qi_getr hC kf_X6_71 sh_8 rfl dX6_count_82 ?_
    refine qi_iconst hC dX6_count_85 kn_iconst_0 ?_
    refine qi_iald hC tn_0 sh_13 vi_0_4 dX6_count_86 ?_
    obtain rfl := Option.some.inj hf
    exact qi_ireti hC hQ (congrArg (fun w => (w, m)) hK) dX6_count_87
  replace hf := qa_if_f h3 hf
  by_cases h4 : v1 = (3 : Int32)
  · replace hf := qa_if_t h4 hf
    refine qi_tabIn (tgt := 88) (off := 87) hC dX6_count_1 (by rw [h4] <;> decide) (by rw [h4] <;> decide) (by rw [h4] <;> decide) (by decide) ?_
    refine qi_aload_n hC 0 rfl rfl dX6_count_88 ?_
    refine qi_getr hC kf_X6_28 sh_0 rfl dX6_count_89 ?_
    refine qi_getr hC kf_X6_71 sh_8 rfl dX6_count_92 ?_
    refine qi_iconst hC dX6_count_95 kn_iconst_1 ?_
    refine qi_iald hC tn_1 sh_13 vi_1_4 dX6_count_96 ?_
    obtain rfl := Option.some.inj hf
    exact qi_ireti hC hQ (congrArg (fun w => (w, m)) hK) dX6_count_97
  replace hf := qa_if_f h4 hf
  by_cases h5 : v1 = (4 : Int32)
  · replace hf := qa_if_t h5 hf
    refine qi_tabIn (tgt := 98) (off := 97) hC dX6_count_1 (by rw [h5] <;> decide) (by rw [h5] <;> decide) (by rw [h5] <;> decide) (by decide) ?_
    refine qi_aload_n hC 0 rfl rfl dX6_count_98 ?_
    refine qi_getr hC kf_X6_28 sh_0 rfl dX6_count_99 ?_
    refine qi_getr hC kf_X6_71 sh_8 rfl dX6_count_102 ?_
    refine qi_iconst hC dX6_count_105 kn_iconst_2 ?_
    refine qi_iald hC tn_2 sh_13 vi_2_4 dX6_count_106 ?_
    obtain rfl := Option.some.inj hf
    exact qi_ireti hC hQ (congrArg (fun w => (w, m)) hK) dX6_count_107
  replace hf := qa_if_f h5 hf
  by_cases h6 : v1 = (5 : Int32)
  · replace hf := qa_if_t h6 hf
    refine qi_tabIn (tgt := 108) (off := 107) hC dX6_count_1 (by rw [h6] <;> decide) (by rw [h6] <;> decide) (by rw [h6] <;> decide) (by decide) ?_
    refine qi_aload_n hC 0 rfl rfl dX6_count_108 ?_
    refine qi_getr hC kf_X6_28 sh_0 rfl dX6_count_109 ?_
    refine qi_getr hC kf_X6_71 sh_8 rfl dX6_count_112 ?_
    refine qi_iconst hC dX6_count_115 kn_iconst_3 ?_
    refine qi_iald hC tn_3 sh_13 vi_3_4 dX6_count_116 ?_
    obtain rfl := Option.some.inj hf
    exact qi_ireti hC hQ (congrArg (fun w => (w, m)) hK) dX6_count_117
  replace hf := qa_if_f h6 hf
  by_cases h7 : v1 = (6 : Int32)
  · replace hf := qa_if_t h7 hf
    refine qi_tabIn (tgt := 118) (off := 117) hC dX6_count_1 (by rw [h7] <;> decide) (by rw [h7] <;> decide) (by rw [h7] <;> decide) (by decide) ?_
    refine qi_aload_n hC 0 rfl rfl dX6_count_118 ?_
    refine qi_getr hC kf_X6_28 sh_0 rfl dX6_count_119 ?_
    refine qi_geti hC kf_X6_75 sh_8 rfl dX6_count_122 ?_
    obtain rfl := Option.some.inj hf
    exact qi_ireti hC hQ (congrArg (fun w => (w, m)) hK) dX6_count_125
  replace hf := qa_if_f h7 hf
  by_cases h8 : v1 = (7 : Int32)
  · replace hf := qa_if_t h8 hf
    refine qi_tabIn (tgt := 126) (off := 125) hC dX6_count_1 (by rw [h8] <;> decide) (by rw [h8] <;> decide) (by rw [h8] <;> decide) (by decide) ?_
    refine qi_aload_n hC 0 rfl rfl dX6_count_126 ?_
    refine qi_getr hC kf_X6_10 sh_0 rfl dX6_count_127 ?_
    refine qi_geti hC kf_X6_78 sh_1 rfl dX6_count_130 ?_
    obtain rfl := Option.some.inj hf
    exact qi_ireti hC hQ (congrArg (fun w => (w, m)) hK) dX6_count_133
  replace hf := qa_if_f h8 hf
  by_cases h9 : v1 = (8 : Int32)
  · replace hf := qa_if_t h9 hf
    refine qi_tabIn (tgt := 134) (off := 133) hC dX6_count_1 (by rw [h9] <;> decide) (by rw [h9] <;> decide) (by rw [h9] <;> decide) (by decide) ?_
    refine qi_aload_n hC 0 rfl rfl dX6_count_134 ?_
    refine qi_getr hC kf_X6_28 sh_0 rfl dX6_count_135 ?_
    refine qi_geti hC kf_X6_79 sh_8 rfl dX6_count_138 ?_
    obtain rfl := Option.some.inj hf
    exact qi_ireti hC hQ (congrArg (fun w => (w, m)) hK) dX6_count_141
  replace hf := qa_if_f h9 hf
  by_cases h10 : v1 = (9 : Int32)
  · replace hf := qa_if_t h10 hf
    refine qi_tabIn (tgt := 142) (off := 141) hC dX6_count_1 (by rw [h10] <;> decide) (by rw [h10] <;> decide) (by rw [h10] <;> decide) (by decide) ?_
    refine qi_aload_n hC 0 rfl rfl dX6_count_142 ?_
    refine qi_getr hC kf_X6_19 sh_0 rfl dX6_count_143 ?_
    refine qi_geti hC kf_X6_82 sh_6 rfl dX6_count_146 ?_
    obtain rfl := Option.some.inj hf
    exact qi_ireti hC hQ (congrArg (fun w => (w, m)) hK) dX6_count_149
  replace hf := qa_if_f h10 hf
  refine qi_tabOut (tgt := 150) hC dX6_count_1 (by have nh1 := lv_neT (a := 0) h1 (by decide); have nh2 := lv_neT (a := 1) h2 (by decide); have nh3 := lv_neT (a := 2) h3 (by decide); have nh4 := lv_neT (a := 3) h4 (by decide); have nh5 := lv_neT (a := 4) h5 (by decide); have nh6 := lv_neT (a := 5) h6 (by decide); have nh7 := lv_neT (a := 6) h7 (by decide); have nh8 := lv_neT (a := 7) h8 (by decide); have nh9 := lv_neT (a := 8) h9 (by decide); have nh10 := lv_neT (a := 9) h10 (by decide); omega) (by decide) ?_
  refine qi_bipush hC dX6_count_150 kn_bipush_m2 ?_
  obtain rfl := Option.some.inj hf
  exact qi_ireti hC hQ (congrArg (fun w => (w, m)) hK) dX6_count_152
set_option maxRecDepth 100000 in
set_option maxHeartbeats 4000000 in
theorem c_X6_set (l : Launch) (Y : qaY) (m : qaM) (v1 : Int32) (v2 : Int32) (q : Int32 × qaM) (hf : f_X6_set m v1 v2 = some q) : qaMi l Y yX6_set cX6_set 4 (some .int) 1 [.ref (Y.2.2.1 0), .int v1, .int v2] m q.2 q.1 := by
  refine qa_enti (by decide +kernel) (Nat.le_of_ble_eq_true rfl) fun X hC hQ => ?_
  have hK : qa_eq q q := rfl
  unfold f_X6_set at hf
  refine qi_iload_n hC 1 rfl rfl dX6_set_0 ?_
  refine qi_if_lt (tgt := 9) hC (by decide) dX6_set_1 (fun h => ?_) (fun h => ?_)
  · replace hf := qa_if_t h hf
    refine qi_bipush hC dX6_set_9 kn_bipush_m5 ?_
    obtain rfl := Option.some.inj hf
    exact qi_ireti hC hQ hK dX6_set_11
  · replace hf := qa_if_f h hf
    refine qi_iload_n hC 1 rfl rfl dX6_set_4 ?_
    refine qi_iconst hC dX6_set_5 kn_iconst_4 ?_
    refine qi_icmp_lt (tgt := 12) hC (by decide) dX6_set_6 (fun h => ?_) (fun h => ?_)
    · replace hf := qa_if_t h hf
      refine qi_iload_n hC 2 rfl rfl dX6_set_12 ?_
      refine qi_if_lt (tgt := 25) hC (by decide) dX6_set_13 (fun h => ?_) (fun h => ?_)
      · replace hf := qa_if_t h hf
        refine qi_bipush hC dX6_set_25 kn_bipush_m7 ?_
        obtain rfl := Option.some.inj hf
        exact qi_ireti hC hQ hK dX6_set_27
      · replace hf := qa_if_f h hf
        refine qi_iload_n hC 2 rfl rfl dX6_set_16 ?_
        refine qi_greatest hC kg_X6_83 rfl dX6_set_17 ?_
        refine qi_iload_n hC 1 rfl rfl dX6_set_20 ?_
        obtain ⟨h1, hf⟩ := qa_ck_e hf
        refine qi_grld hC rfl (qa_in_v h1) dX6_set_21 ?_
        refine qi_icmp_le (tgt := 28) hC (by decide) dX6_set_22 (fun h => ?_) (fun h => ?_)
        · replace hf := qa_if_t h hf
          refine qi_aload_n hC 0 rfl rfl dX6_set_28 ?_
          refine qi_getr hC kf_X6_28 sh_0 rfl dX6_set_29 ?_
          refine qi_getr hC kf_X6_71 sh_8 rfl dX6_set_32 ?_
          refine qi_iload_n hC 1 rfl rfl dX6_set_35 ?_
          obtain ⟨h2, hf⟩ := qa_ck_e hf
          refine qi_iald hC rfl sh_13 (qa_in_v h2) dX6_set_36 ?_
          obtain ⟨x3, ex3, hf⟩ := qa_lt_e hf
          refine qi_nmi hC ex3 ?_
          refine qi_istore_n hC rfl (by decide) rfl dX6_set_37 ?_
          refine qi_aload_n hC 1 rfl rfl dX6_set_38 ?_
          refine qi_getr hC kf_X6_28 sh_0 rfl dX6_set_39 ?_
          refine qi_getr hC kf_X6_71 sh_8 rfl dX6_set_42 ?_
          refine qi_iload_n hC 2 rfl rfl dX6_set_45 ?_
          refine qi_iload_n hC 3 rfl rfl dX6_set_46 ?_
          obtain ⟨h4, hf⟩ := qa_ck_e hf
          obtain ⟨m5, em5, hf⟩ := qa_lt_e hf
          refine qi_iast hC rfl em5 sh_13 (qa_in_v h4) dX6_set_47 ?_
          refine qi_iload_n hC 0 rfl rfl dX6_set_48 ?_
          obtain rfl := Option.some.inj hf
          exact qi_ireti hC hQ hK dX6_set_49
        · replace hf := qa_if_f h hf
          refine qi_bipush hC dX6_set_25 kn_bipush_m7 ?_
          obtain rfl := Option.some.inj hf
          exact qi_ireti hC hQ hK dX6_set_27
    · replace hf := qa_if_f h hf
      refine qi_bipush hC dX6_set_9 kn_bipush_m5 ?_
      obtain rfl := Option.some.inj hf
      exact qi_ireti hC hQ hK dX6_set_11
set_option maxRecDepth 100000 in
set_option maxHeartbeats 4000000 in
theorem t_X6_feed_132 {X : qaX} {l : Launch} {Y : qaY} {fin : Int32 × qaM} (hC : QC X l Y cX6_feed RX6 7 2) (hQ : QRi X Y (some .int) fin.2 fin.1) {m : qaM} {z : (Int32 × qaM)} (hf : b_X6_feed_132 m = some z) (hK : (qa_eq fin) z) : QG X Y 7 m 132 [(0, .ref (Y.2.2.1 0))] [] := by
  unfold b_X6_feed_132 at hf
  refine qi_aload_n hC 0 rfl rfl dX6_feed_132 ?_
  refine qi_getr hC kf_X6_19 sh_0 rfl dX6_feed_133 ?_
  refine qi_geti hC kf_X6_82 sh_6 rfl dX6_feed_136 ?_
  obtain rfl := Option.some.inj hf
  exact qi_ireti hC hQ hK dX6_feed_139
set_option maxRecDepth 100000 in
set_option maxHeartbeats 4000000 in
theorem t_X6_feed_118 {X : qaX} {l : Launch} {Y : qaY} {fin : Int32 × qaM} (hC : QC X l Y cX6_feed RX6 7 2) (hQ : QRi X Y (some .int) fin.2 fin.1) {m : qaM} {v1 : Int32} {v6 : Int32} {z : (Int32 × qaM)} (hf : b_X6_feed_118 m v1 v6 = some z) (hK : (qa_eq fin) z) : QG X Y 7 m 118 [(0, .ref (Y.2.2.1 0)), (1, .int v1), (6, .int v6)] [] := by
  unfold b_X6_feed_118 at hf
  refine qi_iload_n hC 1 rfl rfl dX6_feed_118 ?_
  refine qi_iconst hC dX6_feed_119 kn_iconst_4 ?_
  refine qi_icmp_le (tgt := 132) hC (by decide) dX6_feed_120 (fun h => ?_) (fun h => ?_)
  · replace hf := qa_if_t h hf
    refine qi_sub hC [0] rfl ?_
    exact t_X6_feed_132 hC hQ hf hK
  · replace hf := qa_if_f h hf
    refine qi_aload_n hC 0 rfl rfl dX6_feed_123 ?_
    refine qi_getr hC kf_X6_19 sh_0 rfl dX6_feed_124 ?_
    refine qi_iload hC 2 rfl dX6_feed_127 ?_
    obtain ⟨q7, hq7, hf⟩ := Option.bind_eq_some_iff.mp hf
    refine qi_callVv hC (as := [.int v6]) (c_X4_adds _ _ _ _ _ hq7) kl_X6_90 sh_6 kc_X4_adds rfl rfl (by decide) (by decide) (Nat.le_of_ble_eq_true rfl) dX6_feed_129 ?_
    refine qi_sub hC [0] rfl ?_
    exact t_X6_feed_132 hC hQ hf hK
set_option maxRecDepth 100000 in
set_option maxHeartbeats 4000000 in
theorem t_X6_feed_104 {X : qaX} {l : Launch} {Y : qaY} {fin : Int32 × qaM} (hC : QC X l Y cX6_feed RX6 7 2) (hQ : QRi X Y (some .int) fin.2 fin.1) {m : qaM} {v1 : Int32} {v5 : Int32} {v6 : Int32} {z : (Int32 × qaM)} (hf : b_X6_feed_104 m v1 v5 v6 = some z) (hK : (qa_eq fin) z) : QG X Y 7 m 104 [(0, .ref (Y.2.2.1 0)), (1, .int v1), (5, .int v5), (6, .int v6)] [] := by
  unfold b_X6_feed_104 at hf
  refine qi_iload_n hC 1 rfl rfl dX6_feed_104 ?_
  refine qi_iconst hC dX6_feed_105 kn_iconst_3 ?_
  refine qi_icmp_le (tgt := 118) hC (by decide) dX6_feed_106 (fun h => ?_) (fun h => ?_)
  · replace hf := qa_if_t h hf
    refine qi_sub hC [0, 1, 3] rfl ?_
    exact t_X6_feed_118 hC hQ hf hK
  · replace hf := qa_if_f h hf
    refine qi_aload_n hC 0 rfl rfl dX6_feed_109 ?_
    refine qi_getr hC kf_X6_19 sh_0 rfl dX6_feed_110 ?_
    refine qi_iload hC 2 rfl dX6_feed_113 ?_
    obtain ⟨q8, hq8, hf⟩ := Option.bind_eq_some_iff.mp hf
    refine qi_callVv hC (as := [.int v5]) (c_X4_adds _ _ _ _ _ hq8) kl_X6_90 sh_6 kc_X4_adds rfl rfl (by decide) (by decide) (Nat.le_of_ble_eq_true rfl) dX6_feed_115 ?_
    refine qi_sub hC [0, 1, 3] rfl ?_
    exact t_X6_feed_118 hC hQ hf hK
set_option maxRecDepth 100000 in
set_option maxHeartbeats 4000000 in
theorem t_X6_feed_90 {X : qaX} {l : Launch} {Y : qaY} {fin : Int32 × qaM} (hC : QC X l Y cX6_feed RX6 7 2) (hQ : QRi X Y (some .int) fin.2 fin.1) {m : qaM} {v1 : Int32} {v4 : Int32} {v5 : Int32} {v6 : Int32} {z : (Int32 × qaM)} (hf : b_X6_feed_90 m v1 v4 v5 v6 = some z) (hK : (qa_eq fin) z) : QG X Y 7 m 90 [(0, .ref (Y.2.2.1 0)), (1, .int v1), (4, .int v4), (5, .int v5), (6, .int v6)] [] := by
  unfold b_X6_feed_90 at hf
  refine qi_iload_n hC 1 rfl rfl dX6_feed_90 ?_
  refine qi_iconst hC dX6_feed_91 kn_iconst_2 ?_
  refine qi_icmp_le (tgt := 104) hC (by decide) dX6_feed_92 (fun h => ?_) (fun h => ?_)
  · replace hf := qa_if_t h hf
    refine qi_sub hC [0, 1, 3, 4] rfl ?_
    exact t_X6_feed_104 hC hQ hf hK
  · replace hf := qa_if_f h hf
    refine qi_aload_n hC 0 rfl rfl dX6_feed_95 ?_
    refine qi_getr hC kf_X6_19 sh_0 rfl dX6_feed_96 ?_
    refine qi_iload hC 2 rfl dX6_feed_99 ?_
    obtain ⟨q9, hq9, hf⟩ := Option.bind_eq_some_iff.mp hf
    refine qi_callVv hC (as := [.int v4]) (c_X4_adds _ _ _ _ _ hq9) kl_X6_90 sh_6 kc_X4_adds rfl rfl (by decide) (by decide) (Nat.le_of_ble_eq_true rfl) dX6_feed_101 ?_
    refine qi_sub hC [0, 1, 3, 4] rfl ?_
    exact t_X6_feed_104 hC hQ hf hK
set_option maxRecDepth 100000 in
set_option maxHeartbeats 4000000 in
theorem c_X6_feed (l : Launch) (Y : qaY) (m : qaM) (v1 : Int32) (v2 : Int32) (v3 : Int32) (v4 : Int32) (v5 : Int32) (v6 : Int32) (q : Int32 × qaM) (hf : f_X6_feed m v1 v2 v3 v4 v5 v6 = some q) : qaMi l Y yX6_feed cX6_feed 7 (some .int) 2 [.ref (Y.2.2.1 0), .int v1, .int v2, .int v3, .int v4, .int v5, .int v6] m q.2 q.1 := by
  refine qa_enti (by decide +kernel) (Nat.le_of_ble_eq_true rfl) fun X hC hQ => ?_
  have hK : qa_eq q q := rfl
  unfold f_X6_feed at hf
  refine qi_iload_n hC 1 rfl rfl dX6_feed_0 ?_
  refine qi_iconst hC dX6_feed_1 kn_iconst_1 ?_
  refine qi_icmp_lt (tgt := 48) hC (by decide) dX6_feed_2 (fun h => ?_) (fun h => ?_)
  · replace hf := qa_if_t h hf
    refine qi_bipush hC dX6_feed_48 kn_bipush_m2 ?_
    obtain rfl := Option.some.inj hf
    exact qi_ireti hC hQ hK dX6_feed_50
  · replace hf := qa_if_f h hf
    refine qi_iload_n hC 1 rfl rfl dX6_feed_5 ?_
    refine qi_iconst hC dX6_feed_6 kn_iconst_5 ?_
    refine qi_icmp_gt (tgt := 48) hC (by decide) dX6_feed_7 (fun h => ?_) (fun h => ?_)
    · replace hf := qa_if_t h hf
      refine qi_bipush hC dX6_feed_48 kn_bipush_m2 ?_
      obtain rfl := Option.some.inj hf
      exact qi_ireti hC hQ hK dX6_feed_50
    · replace hf := qa_if_f h hf
      refine qi_iload_n hC 2 rfl rfl dX6_feed_10 ?_
      obtain ⟨q1, hq1, hf⟩ := Option.bind_eq_some_iff.mp hf
      refine qi_callSi hC (as := [.int v2]) (c_X6_isByte _ _ _ _ _ hq1) kl_X6_86 kc_X6_isByte rfl rfl (by decide) (by decide) (Nat.le_of_ble_eq_true rfl) dX6_feed_11 ?_
      refine qi_if_eq (tgt := 48) hC (by decide) dX6_feed_14 (fun h => ?_) (fun h => ?_)
      · replace hf := qa_if_t h hf
        refine qi_bipush hC dX6_feed_48 kn_bipush_m2 ?_
        obtain rfl := Option.some.inj hf
        exact qi_ireti hC hQ hK dX6_feed_50
      · replace hf := qa_if_f h hf
        refine qi_iload_n hC 3 rfl rfl dX6_feed_17 ?_
        obtain ⟨q2, hq2, hf⟩ := Option.bind_eq_some_iff.mp hf
        refine qi_callSi hC (as := [.int v3]) (c_X6_isByte _ _ _ _ _ hq2) kl_X6_86 kc_X6_isByte rfl rfl (by decide) (by decide) (Nat.le_of_ble_eq_true rfl) dX6_feed_18 ?_
        refine qi_if_eq (tgt := 48) hC (by decide) dX6_feed_21 (fun h => ?_) (fun h => ?_)
        · replace hf := qa_if_t h hf
          refine qi_bipush hC dX6_feed_48 kn_bipush_m2 ?_
          obtain rfl := Option.some.inj hf
          exact qi_ireti hC hQ hK dX6_feed_50
        · replace hf := qa_if_f h hf
          refine qi_iload hC 4 rfl dX6_feed_24 ?_
          obtain ⟨q3, hq3, hf⟩ := Option.bind_eq_some_iff.mp hf
          refine qi_callSi hC (as := [.int v4]) (c_X6_isByte _ _ _ _ _ hq3) kl_X6_86 kc_X6_isByte rfl rfl (by decide) (by decide) (Nat.le_of_ble_eq_true rfl) dX6_feed_26 ?_
          refine qi_if_eq (tgt := 48) hC (by decide) dX6_feed_29 (fun h => ?_) (fun h => ?_)
          · replace hf := qa_if_t h hf
            refine qi_bipush hC dX6_feed_48 kn_bipush_m2 ?_
            obtain rfl := Option.some.inj hf
            exact qi_ireti hC hQ hK dX6_feed_50
          · replace hf := qa_if_f h hf
            refine qi_iload hC 5 rfl dX6_feed_32 ?_
            obtain ⟨q4, hq4, hf⟩ := Option.bind_eq_some_iff.mp hf
            refine qi_callSi hC (as := [.int v5]) (c_X6_isByte _ _ _ _ _ hq4) kl_X6_86 kc_X6_isByte rfl rfl (by decide) (by decide) (Nat.le_of_ble_eq_true rfl) dX6_feed_34 ?_
            refine qi_if_eq (tgt := 48) hC (by decide) dX6_feed_37 (fun h => ?_) (fun h => ?_)
            · replace hf := qa_if_t h hf
              refine qi_bipush hC dX6_feed_48 kn_bipush_m2 ?_
              obtain rfl := Option.some.inj hf
              exact qi_ireti hC hQ hK dX6_feed_50
            · replace hf := qa_if_f h hf
              refine qi_iload hC 6 rfl dX6_feed_40 ?_
              obtain ⟨q5, hq5, hf⟩ := Option.bind_eq_some_iff.mp hf
              refine qi_callSi hC (as := [.int v6]) (c_X6_isByte _ _ _ _ _ hq5) kl_X6_86 kc_X6_isByte rfl rfl (by decide) (by decide) (Nat.le_of_ble_eq_true rfl) dX6_feed_42 ?_
              refine qi_if_ne (tgt := 51) hC (by decide) dX6_feed_45 (fun h => ?_) (fun h => ?_)
              · replace hf := qa_if_f h hf
                refine qi_iload_n hC 1 rfl rfl dX6_feed_51 ?_
                refine qi_sipush hC dX6_feed_52 kn_sipush_160 ?_
                refine qi_aload_n hC 0 rfl rfl dX6_feed_55 ?_
                refine qi_getr hC kf_X6_19 sh_0 rfl dX6_feed_56 ?_
                refine qi_geti hC kf_X6_82 sh_6 rfl dX6_feed_59 ?_
                refine qi_isub hC dX6_feed_62 ?_
                refine qi_icmp_le (tgt := 69) hC (by decide) dX6_feed_63 (fun h => ?_) (fun h => ?_)
                · replace hf := qa_if_t h hf
                  refine qi_aload_n hC 0 rfl rfl dX6_feed_69 ?_
                  refine qi_getr hC kf_X6_19 sh_0 rfl dX6_feed_70 ?_
                  refine qi_iload_n hC 2 rfl rfl dX6_feed_73 ?_
                  obtain ⟨q6, hq6, hf⟩ := Option.bind_eq_some_iff.mp hf
                  refine qi_callVv hC (as := [.int v2]) (c_X4_adds _ _ _ _ _ hq6) kl_X6_90 sh_6 kc_X4_adds rfl rfl (by decide) (by decide) (Nat.le_of_ble_eq_true rfl) dX6_feed_74 ?_
                  refine qi_iload_n hC 1 rfl rfl dX6_feed_77 ?_
                  refine qi_iconst hC dX6_feed_78 kn_iconst_1 ?_
                  refine qi_icmp_le (tgt := 90) hC (by decide) dX6_feed_79 (fun h => ?_) (fun h => ?_)
                  · replace hf := qa_if_t h hf
                    refine qi_sub hC [0, 1, 4, 5, 6] rfl ?_
                    exact t_X6_feed_90 hC hQ hf hK
                  · replace hf := qa_if_f h hf
                    refine qi_aload_n hC 0 rfl rfl dX6_feed_82 ?_
                    refine qi_getr hC kf_X6_19 sh_0 rfl dX6_feed_83 ?_
                    refine qi_iload_n hC 3 rfl rfl dX6_feed_86 ?_
                    obtain ⟨q10, hq10, hf⟩ := Option.bind_eq_some_iff.mp hf
                    refine qi_callVv hC (as := [.int v3]) (c_X4_adds _ _ _ _ _ hq10) kl_X6_90 sh_6 kc_X4_adds rfl rfl (by decide) (by decide) (Nat.le_of_ble_eq_true rfl) dX6_feed_87 ?_
                    refine qi_sub hC [0, 1, 4, 5, 6] rfl ?_
                    exact t_X6_feed_90 hC hQ hf hK
                · replace hf := qa_if_f h hf
                  refine qi_bipush hC dX6_feed_66 kn_bipush_m4 ?_
                  obtain rfl := Option.some.inj hf
                  exact qi_ireti hC hQ hK dX6_feed_68
              · replace hf := qa_if_t h hf
                refine qi_bipush hC dX6_feed_48 kn_bipush_m2 ?_
                obtain rfl := Option.some.inj hf
                exact qi_ireti hC hQ hK dX6_feed_50
set_option maxRecDepth 100000 in
set_option maxHeartbeats 4000000 in
theorem c_X6_text (l : Launch) (Y : qaY) (m : qaM) (q : Int32 × qaM) (hf : f_X6_text m = some q) : qaMi l Y yX6_text cX6_text 2 (some .int) 70 [.ref (Y.2.2.1 0)] m q.2 q.1 := by
  refine qa_enti (by decide +kernel) (Nat.le_of_ble_eq_true rfl) fun X hC hQ => ?_
  have hK : qa_eq q q := rfl
  unfold f_X6_text at hf
  refine qi_aload_n hC 0 rfl rfl dX6_text_0 ?_
  refine qi_getr hC kf_X6_10 sh_0 rfl dX6_text_1 ?_
  refine qi_geti hC kf_X6_78 sh_1 rfl dX6_text_4 ?_
  refine qi_bipush hC dX6_text_7 kn_bipush_6 ?_
  refine qi_icmp_lt (tgt := 15) hC (by decide) dX6_text_9 (fun h => ?_) (fun h => ?_)
  · replace hf := qa_if_t h hf
    refine qi_aload_n hC 0 rfl rfl dX6_text_15 ?_
    refine qi_getr hC kf_X6_10 sh_0 rfl dX6_text_16 ?_
    obtain ⟨q1, hq1, hf⟩ := Option.bind_eq_some_iff.mp hf
    refine qi_callVv hC (as := []) (c_X5_beginsText _ _ _ _ hq1) kl_X6_94 sh_1 kc_X5_beginsText rfl rfl (by decide) (by decide) (Nat.le_of_ble_eq_true rfl) dX6_text_19 ?_
    refine qi_aload_n hC 0 rfl rfl dX6_text_22 ?_
    refine qi_getr hC kf_X6_19 sh_0 rfl dX6_text_23 ?_
    refine qi_aload_n hC 0 rfl rfl dX6_text_26 ?_
    refine qi_getr hC kf_X6_10 sh_0 rfl dX6_text_27 ?_
    obtain ⟨q2, hq2, hf⟩ := Option.bind_eq_some_iff.mp hf
    refine qi_callVi hC (as := [.ref (Y.2.2.1 1)]) (c_X4_readsInto _ _ _ _ hq2) kl_X6_97 sh_6 kc_X4_readsInto rfl rfl (by decide) (by decide) (Nat.le_of_ble_eq_true rfl) dX6_text_30 ?_
    refine qi_istore_n hC rfl (by decide) rfl dX6_text_33 ?_
    refine qi_aload_n hC 1 rfl rfl dX6_text_34 ?_
    refine qi_getr hC kf_X6_19 sh_0 rfl dX6_text_35 ?_
    refine qi_iconst hC dX6_text_38 kn_iconst_0 ?_
    obtain ⟨m3, em3, hf⟩ := qa_lt_e hf
    refine qi_puti hC em3 kp_X6_82 sh_6 rfl rfl rfl dX6_text_39 ?_
    refine qi_iload_n hC 0 rfl rfl dX6_text_42 ?_
    refine qi_iconst hC dX6_text_43 kn_iconst_m1 ?_
    refine qi_icmp_ne (tgt := 57) hC (by decide) dX6_text_44 (fun h => ?_) (fun h => ?_)
    · replace hf := qa_if_f h hf
      refine qi_bipush hC dX6_text_57 kn_bipush_m100 ?_
      refine qi_iload_n hC 0 rfl rfl dX6_text_59 ?_
      refine qi_isub hC dX6_text_60 ?_
      obtain rfl := Option.some.inj hf
      exact qi_ireti hC hQ hK dX6_text_61
    · replace hf := qa_if_t h hf
      refine qi_aload_n hC 1 rfl rfl dX6_text_47 ?_
      refine qi_getr hC kf_X6_10 sh_0 rfl dX6_text_48 ?_
      obtain ⟨q4, hq4, hf⟩ := Option.bind_eq_some_iff.mp hf
      refine qi_callVi hC (as := []) (c_X5_keepsText _ _ _ _ hq4) kl_X6_101 sh_1 kc_X5_keepsText rfl rfl (by decide) (by decide) (Nat.le_of_ble_eq_true rfl) dX6_text_51 ?_
      refine qi_goto (tgt := 61) hC (by decide) dX6_text_54 ?_
      obtain rfl := Option.some.inj hf
      exact qi_ireti hC hQ hK dX6_text_61
  · replace hf := qa_if_f h hf
    refine qi_bipush hC dX6_text_12 kn_bipush_m4 ?_
    obtain rfl := Option.some.inj hf
    exact qi_ireti hC hQ hK dX6_text_14
set_option maxRecDepth 100000 in
set_option maxHeartbeats 4000000 in
theorem c_X6_force (l : Launch) (Y : qaY) (m : qaM) (v1 : Int32) (q : Int32 × qaM) (hf : f_X6_force m v1 = some q) : qaMi l Y yX6_force cX6_force 3 (some .int) 1 [.ref (Y.2.2.1 0), .int v1] m q.2 q.1 := by
  refine qa_enti (by decide +kernel) (Nat.le_of_ble_eq_true rfl) fun X hC hQ => ?_
  have hK : qa_eq q q := rfl
  unfold f_X6_force at hf
  refine qi_iload_n hC 1 rfl rfl dX6_force_0 ?_
  refine qi_if_lt (tgt := 15) hC (by decide) dX6_force_1 (fun h => ?_) (fun h => ?_)
  · replace hf := qa_if_t h hf
    refine qi_bipush hC dX6_force_15 kn_bipush_m2 ?_
    obtain rfl := Option.some.inj hf
    exact qi_ireti hC hQ hK dX6_force_17
  · replace hf := qa_if_f h hf
    refine qi_iload_n hC 1 rfl rfl dX6_force_4 ?_
    refine qi_aload_n hC 0 rfl rfl dX6_force_5 ?_
    refine qi_getr hC kf_X6_10 sh_0 rfl dX6_force_6 ?_
    refine qi_geti hC kf_X6_78 sh_1 rfl dX6_force_9 ?_
    refine qi_icmp_lt (tgt := 18) hC (by decide) dX6_force_12 (fun h => ?_) (fun h => ?_)
    · replace hf := qa_if_t h hf
      refine qi_aload_n hC 0 rfl rfl dX6_force_18 ?_
      refine qi_getr hC kf_X6_28 sh_0 rfl dX6_force_19 ?_
      refine qi_geti hC kf_X6_79 sh_8 rfl dX6_force_22 ?_
      obtain ⟨x1, ex1, hf⟩ := qa_lt_e hf
      refine qi_nmi hC ex1 ?_
      refine qi_istore_n hC rfl (by decide) rfl dX6_force_25 ?_
      refine qi_aload_n hC 1 rfl rfl dX6_force_26 ?_
      refine qi_getr hC kf_X6_28 sh_0 rfl dX6_force_27 ?_
      refine qi_iload_n hC 2 rfl rfl dX6_force_30 ?_
      obtain ⟨m2, em2, hf⟩ := qa_lt_e hf
      refine qi_puti hC em2 kp_X6_79 sh_8 rfl rfl rfl dX6_force_31 ?_
      refine qi_iload_n hC 0 rfl rfl dX6_force_34 ?_
      obtain rfl := Option.some.inj hf
      exact qi_ireti hC hQ hK dX6_force_35
    · replace hf := qa_if_f h hf
      refine qi_bipush hC dX6_force_15 kn_bipush_m2 ?_
      obtain rfl := Option.some.inj hf
      exact qi_ireti hC hQ hK dX6_force_17
set_option maxRecDepth 100000 in
set_option maxHeartbeats 4000000 in
theorem c_X6_asks (l : Launch) (Y : qaY) (m : qaM) (v1 : Int32) (v2 : Int32) (v3 : Int32) (v4 : Int32) (q : Int32 × qaM) (hf : f_X6_asks m v1 v2 v3 v4 = some q) : qaMi l Y yX6_asks cX6_asks 5 (some .int) 3 [.ref (Y.2.2.1 0), .int v1, .int v2, .int v3, .int v4] m q.2 q.1 := by
  refine qa_enti (by decide +kernel) (Nat.le_of_ble_eq_true rfl) fun X hC hQ => ?_
  have hK : qa_eq q q := rfl
  unfold f_X6_asks at hf
  refine qi_iload_n hC 1 rfl rfl dX6_asks_0 ?_
  refine qi_if_lt (tgt := 31) hC (by decide) dX6_asks_1 (fun h => ?_) (fun h => ?_)
  · replace hf := qa_if_t h hf
    refine qi_bipush hC dX6_asks_31 kn_bipush_m2 ?_
    obtain rfl := Option.some.inj hf
    exact qi_ireti hC hQ hK dX6_asks_33
  · replace hf := qa_if_f h hf
    refine qi_iload_n hC 1 rfl rfl dX6_asks_4 ?_
    refine qi_iconst hC dX6_asks_5 kn_iconst_3 ?_
    refine qi_icmp_ge (tgt := 31) hC (by decide) dX6_asks_6 (fun h => ?_) (fun h => ?_)
    · replace hf := qa_if_t h hf
      refine qi_bipush hC dX6_asks_31 kn_bipush_m2 ?_
      obtain rfl := Option.some.inj hf
      exact qi_ireti hC hQ hK dX6_asks_33
    · replace hf := qa_if_f h hf
      refine qi_iload_n hC 2 rfl rfl dX6_asks_9 ?_
      refine qi_if_lt (tgt := 31) hC (by decide) dX6_asks_10 (fun h => ?_) (fun h => ?_)
      · replace hf := qa_if_t h hf
        refine qi_bipush hC dX6_asks_31 kn_bipush_m2 ?_
        obtain rfl := Option.some.inj hf
        exact qi_ireti hC hQ hK dX6_asks_33
      · replace hf := qa_if_f h hf
        refine qi_iload_n hC 2 rfl rfl dX6_asks_13 ?_
        refine qi_sipush hC dX6_asks_14 kn_sipush_999 ?_
        refine qi_icmp_gt (tgt := 31) hC (by decide) dX6_asks_17 (fun h => ?_) (fun h => ?_)
        · replace hf := qa_if_t h hf
          refine qi_bipush hC dX6_asks_31 kn_bipush_m2 ?_
          obtain rfl := Option.some.inj hf
          exact qi_ireti hC hQ hK dX6_asks_33
        · replace hf := qa_if_f h hf
          refine qi_iload_n hC 3 rfl rfl dX6_asks_20 ?_
          refine qi_if_lt (tgt := 31) hC (by decide) dX6_asks_21 (fun h => ?_) (fun h => ?_)
          · replace hf := qa_if_t h hf
            refine qi_bipush hC dX6_asks_31 kn_bipush_m2 ?_
            obtain rfl := Option.some.inj hf
            exact qi_ireti hC hQ hK dX6_asks_33
          · replace hf := qa_if_f h hf
            refine qi_iload_n hC 3 rfl rfl dX6_asks_24 ?_
            refine qi_sipush hC dX6_asks_25 kn_sipush_999 ?_
            refine qi_icmp_le (tgt := 34) hC (by decide) dX6_asks_28 (fun h => ?_) (fun h => ?_)
            · replace hf := qa_if_t h hf
              refine qi_iload hC 4 rfl dX6_asks_34 ?_
              refine qi_if_lt (tgt := 58) hC (by decide) dX6_asks_36 (fun h => ?_) (fun h => ?_)
              · replace hf := qa_if_t h hf
                refine qi_bipush hC dX6_asks_58 kn_bipush_m2 ?_
                obtain rfl := Option.some.inj hf
                exact qi_ireti hC hQ hK dX6_asks_60
              · replace hf := qa_if_f h hf
                refine qi_iload hC 4 rfl dX6_asks_39 ?_
                refine qi_bipush hC dX6_asks_41 kn_bipush_10 ?_
                refine qi_idiv hC (by decide) dX6_asks_43 ?_
                refine qi_bipush hC dX6_asks_44 kn_bipush_10 ?_
                refine qi_icmp_ge (tgt := 58) hC (by decide) dX6_asks_46 (fun h => ?_) (fun h => ?_)
                · replace hf := qa_if_t h hf
                  refine qi_bipush hC dX6_asks_58 kn_bipush_m2 ?_
                  obtain rfl := Option.some.inj hf
                  exact qi_ireti hC hQ hK dX6_asks_60
                · replace hf := qa_if_f h hf
                  refine qi_iload hC 4 rfl dX6_asks_49 ?_
                  refine qi_bipush hC dX6_asks_51 kn_bipush_10 ?_
                  refine qi_irem hC (by decide) dX6_asks_53 ?_
                  refine qi_iconst hC dX6_asks_54 kn_iconst_1 ?_
                  refine qi_icmp_le (tgt := 61) hC (by decide) dX6_asks_55 (fun h => ?_) (fun h => ?_)
                  · replace hf := qa_if_t h hf
                    refine qi_aload_n hC 0 rfl rfl dX6_asks_61 ?_
                    refine qi_getr hC kf_X6_10 sh_0 rfl dX6_asks_62 ?_
                    refine qi_iload_n hC 2 rfl rfl dX6_asks_65 ?_
                    refine qi_iload_n hC 3 rfl rfl dX6_asks_66 ?_
                    refine qi_iload hC 4 rfl dX6_asks_67 ?_
                    refine qi_bipush hC dX6_asks_69 kn_bipush_10 ?_
                    refine qi_idiv hC (by decide) dX6_asks_71 ?_
                    refine qi_iload hC 4 rfl dX6_asks_72 ?_
                    refine qi_bipush hC dX6_asks_74 kn_bipush_10 ?_
                    refine qi_irem hC (by decide) dX6_asks_76 ?_
                    obtain ⟨q1, hq1, hf⟩ := Option.bind_eq_some_iff.mp hf
                    refine qi_callVv hC (as := [.int v2, .int v3, .int (v4 / (10 : Int32)), .int (v4 - v4 / (10 : Int32) * (10 : Int32))]) (c_X5_tellsLinen _ _ _ _ _ _ _ _ hq1) kl_X6_105 sh_1 kc_X5_tellsLinen rfl rfl (by decide) (by decide) (Nat.le_of_ble_eq_true rfl) dX6_asks_77 ?_
                    refine qi_aload_n hC 0 rfl rfl dX6_asks_80 ?_
                    refine qi_getr hC kf_X6_10 sh_0 rfl dX6_asks_81 ?_
                    refine qi_aload_n hC 0 rfl rfl dX6_asks_84 ?_
                    refine qi_getr hC kf_X6_28 sh_0 rfl dX6_asks_85 ?_
                    refine qi_geti hC kf_X6_75 sh_8 rfl dX6_asks_88 ?_
                    refine qi_aload_n hC 0 rfl rfl dX6_asks_91 ?_
                    refine qi_getr hC kf_X6_28 sh_0 rfl dX6_asks_92 ?_
                    refine qi_getr hC kf_X6_71 sh_8 rfl dX6_asks_95 ?_
                    refine qi_iconst hC dX6_asks_98 kn_iconst_0 ?_
                    refine qi_iald hC tn_0 sh_13 vi_0_4 dX6_asks_99 ?_
                    obtain ⟨q2, hq2, hf⟩ := Option.bind_eq_some_iff.mp hf
                    refine qi_callVv hC (as := [.int (q1 8 3), .int (q1 13 0)]) (c_X5_tellsWeek _ _ _ _ _ _ hq2) kl_X6_109 sh_1 kc_X5_tellsWeek rfl rfl (by decide) (by decide) (Nat.le_of_ble_eq_true rfl) dX6_asks_100 ?_
                    refine qi_aload_n hC 0 rfl rfl dX6_asks_103 ?_
                    refine qi_getr hC kf_X6_10 sh_0 rfl dX6_asks_104 ?_
                    refine qi_aload_n hC 0 rfl rfl dX6_asks_107 ?_
                    refine qi_getr hC kf_X6_28 sh_0 rfl dX6_asks_108 ?_
                    refine qi_geti hC kf_X6_79 sh_8 rfl dX6_asks_111 ?_
                    refine qi_iload_n hC 1 rfl rfl dX6_asks_114 ?_
                    obtain ⟨q3, hq3, hf⟩ := Option.bind_eq_some_iff.mp hf
                    refine qi_callVi hC (as := [.int (q2 8 4), .int v1]) (c_X5_says _ _ _ _ _ _ hq3) kl_X6_113 sh_1 kc_X5_says rfl rfl (by decide) (by decide) (Nat.le_of_ble_eq_true rfl) dX6_asks_115 ?_
                    obtain rfl := Option.some.inj hf
                    exact qi_ireti hC hQ hK dX6_asks_118
                  · replace hf := qa_if_f h hf
                    refine qi_bipush hC dX6_asks_58 kn_bipush_m2 ?_
                    obtain rfl := Option.some.inj hf
                    exact qi_ireti hC hQ hK dX6_asks_60
            · replace hf := qa_if_f h hf
              refine qi_bipush hC dX6_asks_31 kn_bipush_m2 ?_
              obtain rfl := Option.some.inj hf
              exact qi_ireti hC hQ hK dX6_asks_33
set_option maxRecDepth 100000 in
set_option maxHeartbeats 4000000 in
theorem c_X6_buy (l : Launch) (Y : qaY) (m : qaM) (v1 : Int32) (v2 : Int32) (q : Int32 × qaM) (hf : f_X6_buy m v1 v2 = some q) : qaMi l Y yX6_buy cX6_buy 4 (some .int) 3 [.ref (Y.2.2.1 0), .int v1, .int v2] m q.2 q.1 := by
  refine qa_enti (by decide +kernel) (Nat.le_of_ble_eq_true rfl) fun X hC hQ => ?_
  have hK : qa_eq q q := rfl
  unfold f_X6_buy at hf
  refine qi_iload_n hC 1 rfl rfl dX6_buy_0 ?_
  refine qi_if_lt (tgt := 24) hC (by decide) dX6_buy_1 (fun h => ?_) (fun h => ?_)
  · replace hf := qa_if_t h hf
    refine qi_bipush hC dX6_buy_24 kn_bipush_m2 ?_
    obtain rfl := Option.some.inj hf
    exact qi_ireti hC hQ hK dX6_buy_26
  · replace hf := qa_if_f h hf
    refine qi_iload_n hC 1 rfl rfl dX6_buy_4 ?_
    refine qi_bipush hC dX6_buy_5 kn_bipush_10 ?_
    refine qi_idiv hC (by decide) dX6_buy_7 ?_
    refine qi_bipush hC dX6_buy_8 kn_bipush_6 ?_
    refine qi_icmp_ge (tgt := 24) hC (by decide) dX6_buy_10 (fun h => ?_) (fun h => ?_)
    · replace hf := qa_if_t h hf
      refine qi_bipush hC dX6_buy_24 kn_bipush_m2 ?_
      obtain rfl := Option.some.inj hf
      exact qi_ireti hC hQ hK dX6_buy_26
    · replace hf := qa_if_f h hf
      refine qi_iload_n hC 2 rfl rfl dX6_buy_13 ?_
      refine qi_if_lt (tgt := 24) hC (by decide) dX6_buy_14 (fun h => ?_) (fun h => ?_)
      · replace hf := qa_if_t h hf
        refine qi_bipush hC dX6_buy_24 kn_bipush_m2 ?_
        obtain rfl := Option.some.inj hf
        exact qi_ireti hC hQ hK dX6_buy_26
      · replace hf := qa_if_f h hf
        refine qi_iload_n hC 2 rfl rfl dX6_buy_17 ?_
        refine qi_sipush hC dX6_buy_18 kn_sipush_999 ?_
        refine qi_icmp_le (tgt := 27) hC (by decide) dX6_buy_21 (fun h => ?_) (fun h => ?_)
        · replace hf := qa_if_t h hf
          refine qi_aload_n hC 0 rfl rfl dX6_buy_27 ?_
          refine qi_getr hC kf_X6_28 sh_0 rfl dX6_buy_28 ?_
          refine qi_getr hC kf_X6_52 sh_8 rfl dX6_buy_31 ?_
          refine qi_geti hC kf_X6_56 sh_9 rfl dX6_buy_34 ?_
          refine qi_bipush hC dX6_buy_37 kn_bipush_8 ?_
          refine qi_icmp_lt (tgt := 45) hC (by decide) dX6_buy_39 (fun h => ?_) (fun h => ?_)
          · replace hf := qa_if_t h hf
            refine qi_aload_n hC 0 rfl rfl dX6_buy_45 ?_
            refine qi_getr hC kf_X6_28 sh_0 rfl dX6_buy_46 ?_
            refine qi_getr hC kf_X6_52 sh_8 rfl dX6_buy_49 ?_
            refine qi_iload_n hC 1 rfl rfl dX6_buy_52 ?_
            refine qi_bipush hC dX6_buy_53 kn_bipush_10 ?_
            refine qi_idiv hC (by decide) dX6_buy_55 ?_
            refine qi_iload_n hC 1 rfl rfl dX6_buy_56 ?_
            refine qi_bipush hC dX6_buy_57 kn_bipush_10 ?_
            refine qi_irem hC (by decide) dX6_buy_59 ?_
            refine qi_iload_n hC 2 rfl rfl dX6_buy_60 ?_
            obtain ⟨q1, hq1, hf⟩ := Option.bind_eq_some_iff.mp hf
            refine qi_callVi hC (as := [.int (v1 / (10 : Int32)), .int (v1 - v1 / (10 : Int32) * (10 : Int32)), .int v2]) (c_X1_adds _ _ hou_8.2.1 _ _ _ _ _ hq1) kl_X6_117 sh_9 kc_X1_adds rfl rfl (by decide) (by decide) (Nat.le_of_ble_eq_true rfl) dX6_buy_61 ?_
            refine qi_istore_n hC rfl (by decide) rfl dX6_buy_64 ?_
            refine qi_aload_n hC 1 rfl rfl dX6_buy_65 ?_
            refine qi_getr hC kf_X6_28 sh_0 rfl dX6_buy_66 ?_
            refine qi_iload_n hC 0 rfl rfl dX6_buy_69 ?_
            obtain ⟨q2, hq2, hf⟩ := Option.bind_eq_some_iff.mp hf
            refine qi_callVv hC (as := [.int q1.1]) (c_X0_laysDown _ _ hou_8 _ _ _ hq2) kl_X6_120 sh_8 kc_X0_laysDown rfl rfl (by decide) (by decide) (Nat.le_of_ble_eq_true rfl) dX6_buy_70 ?_
            refine qi_iload_n hC 0 rfl rfl dX6_buy_73 ?_
            obtain rfl := Option.some.inj hf
            exact qi_ireti hC hQ hK dX6_buy_74
          · replace hf := qa_if_f h hf
            refine qi_bipush hC dX6_buy_42 kn_bipush_m4 ?_
            obtain rfl := Option.some.inj hf
            exact qi_ireti hC hQ hK dX6_buy_44
        · replace hf := qa_if_f h hf
          refine qi_bipush hC dX6_buy_24 kn_bipush_m2 ?_
          obtain rfl := Option.some.inj hf
          exact qi_ireti hC hQ hK dX6_buy_26
set_option maxRecDepth 100000 in
set_option maxHeartbeats 4000000 in
theorem c_X6_isLinen (l : Launch) (Y : qaY) (m : qaM) (v1 : Int32) (q : Int32) (hf : f_X6_isLinen m v1 = some q) : qaMi l Y yX6_isLinen cX6_isLinen 2 (some .boolean) 1 [.ref (Y.2.2.1 0), .int v1] m m q := by
  refine qa_enti (by decide +kernel) (Nat.le_of_ble_eq_true rfl) fun X hC hQ => ?_
  have hK : qa_eq q q := rfl
  unfold f_X6_isLinen at hf
  refine qi_iload_n hC 1 rfl rfl dX6_isLinen_0 ?_
  refine qi_if_lt (tgt := 22) hC (by decide) dX6_isLinen_1 (fun h => ?_) (fun h => ?_)
  · replace hf := qa_if_t h hf
    refine qi_iconst hC dX6_isLinen_22 kn_iconst_0 ?_
    obtain rfl := Option.some.inj hf
    exact qi_iretz hC hQ (congrArg (fun w => (w, m)) hK) rfl dX6_isLinen_23
  · replace hf := qa_if_f h hf
    refine qi_iload_n hC 1 rfl rfl dX6_isLinen_4 ?_
    refine qi_aload_n hC 0 rfl rfl dX6_isLinen_5 ?_
    refine qi_getr hC kf_X6_28 sh_0 rfl dX6_isLinen_6 ?_
    refine qi_getr hC kf_X6_52 sh_8 rfl dX6_isLinen_9 ?_
    refine qi_geti hC kf_X6_56 sh_9 rfl dX6_isLinen_12 ?_
    refine qi_icmp_ge (tgt := 22) hC (by decide) dX6_isLinen_15 (fun h => ?_) (fun h => ?_)
    · replace hf := qa_if_t h hf
      refine qi_iconst hC dX6_isLinen_22 kn_iconst_0 ?_
      obtain rfl := Option.some.inj hf
      exact qi_iretz hC hQ (congrArg (fun w => (w, m)) hK) rfl dX6_isLinen_23
    · replace hf := qa_if_f h hf
      refine qi_iconst hC dX6_isLinen_18 kn_iconst_1 ?_
      refine qi_goto (tgt := 23) hC (by decide) dX6_isLinen_19 ?_
      obtain rfl := Option.some.inj hf
      exact qi_iretz hC hQ (congrArg (fun w => (w, m)) hK) rfl dX6_isLinen_23
set_option maxRecDepth 100000 in
set_option maxHeartbeats 4000000 in
theorem c_X6_told (l : Launch) (Y : qaY) (m : qaM) (v1 : Int32) (v2 : Int32) (q : Int32) (hf : f_X6_told m v1 v2 = some q) : qaMi l Y yX6_told cX6_told 3 (some .int) 3 [.ref (Y.2.2.1 0), .int v1, .int v2] m m q := by
  refine qa_enti (by decide +kernel) (Nat.le_of_ble_eq_true rfl) fun X hC hQ => ?_
  have hK : qa_eq q q := rfl
  unfold f_X6_told at hf
  refine qi_aload_n hC 0 rfl rfl dX6_told_0 ?_
  refine qi_iload_n hC 1 rfl rfl dX6_told_1 ?_
  obtain ⟨q1, hq1, hf⟩ := Option.bind_eq_some_iff.mp hf
  refine qi_callVi hC (as := [.int v1]) (c_X6_isLinen _ _ _ _ _ hq1) kl_X6_123 sh_0 kc_X6_isLinen rfl rfl (by decide) (by decide) (Nat.le_of_ble_eq_true rfl) dX6_told_2 ?_
  refine qi_if_ne (tgt := 11) hC (by decide) dX6_told_5 (fun h => ?_) (fun h => ?_)
  · replace hf := qa_if_f h hf
    refine qi_iload_n hC 2 rfl rfl dX6_told_11 ?_
    refine qi_if_lt (tgt := 21) hC (by decide) dX6_told_12 (fun h => ?_) (fun h => ?_)
    · replace hf := qa_if_t h hf
      refine qi_bipush hC dX6_told_21 kn_bipush_m7 ?_
      obtain rfl := Option.some.inj hf
      exact qi_ireti hC hQ (congrArg (fun w => (w, m)) hK) dX6_told_23
    · replace hf := qa_if_f h hf
      refine qi_iload_n hC 2 rfl rfl dX6_told_15 ?_
      refine qi_bipush hC dX6_told_16 kn_bipush_7 ?_
      refine qi_icmp_le (tgt := 24) hC (by decide) dX6_told_18 (fun h => ?_) (fun h => ?_)
      · replace hf := qa_if_t h hf
        refine qi_iload_n hC 2 rfl rfl dX6_told_24 ?_
        refine qi_bipush hC dX6_told_25 kn_bipush_7 ?_
        refine qi_icmp_ne (tgt := 44) hC (by decide) dX6_told_27 (fun h => ?_) (fun h => ?_)
        · replace hf := qa_if_f h hf
          refine qi_aload_n hC 0 rfl rfl dX6_told_44 ?_
          refine qi_getr hC kf_X6_28 sh_0 rfl dX6_told_45 ?_
          refine qi_getr hC kf_X6_52 sh_8 rfl dX6_told_48 ?_
          refine qi_iload_n hC 1 rfl rfl dX6_told_51 ?_
          refine qi_iload_n hC 2 rfl rfl dX6_told_52 ?_
          obtain ⟨q2, hq2, hf⟩ := Option.bind_eq_some_iff.mp hf
          refine qi_callVi hC (as := [.int v1, .int v2]) (c_X1_fact _ _ hou_8.2.1 _ _ _ _ hq2) kl_X6_130 sh_9 kc_X1_fact rfl rfl (by decide) (by decide) (Nat.le_of_ble_eq_true rfl) dX6_told_53 ?_
          obtain rfl := Option.some.inj hf
          exact qi_ireti hC hQ (congrArg (fun w => (w, m)) hK) dX6_told_56
        · replace hf := qa_if_t h hf
          refine qi_aload_n hC 0 rfl rfl dX6_told_30 ?_
          refine qi_getr hC kf_X6_28 sh_0 rfl dX6_told_31 ?_
          refine qi_getr hC kf_X6_52 sh_8 rfl dX6_told_34 ?_
          refine qi_iload_n hC 1 rfl rfl dX6_told_37 ?_
          obtain ⟨q3, hq3, hf⟩ := Option.bind_eq_some_iff.mp hf
          refine qi_callVi hC (as := [.int v1]) (c_X1_lasts _ _ hou_8.2.1 _ _ _ hq3) kl_X6_126 sh_9 kc_X1_lasts rfl rfl (by decide) (by decide) (Nat.le_of_ble_eq_true rfl) dX6_told_38 ?_
          refine qi_goto (tgt := 56) hC (by decide) dX6_told_41 ?_
          obtain rfl := Option.some.inj hf
          exact qi_ireti hC hQ (congrArg (fun w => (w, m)) hK) dX6_told_56
      · replace hf := qa_if_f h hf
        refine qi_bipush hC dX6_told_21 kn_bipush_m7 ?_
        obtain rfl := Option.some.inj hf
        exact qi_ireti hC hQ (congrArg (fun w => (w, m)) hK) dX6_told_23
  · replace hf := qa_if_t h hf
    refine qi_bipush hC dX6_told_8 kn_bipush_m5 ?_
    obtain rfl := Option.some.inj hf
    exact qi_ireti hC hQ (congrArg (fun w => (w, m)) hK) dX6_told_10
set_option maxRecDepth 100000 in
set_option maxHeartbeats 4000000 in
theorem t_X6_put_38 {X : qaX} {l : Launch} {Y : qaY} {fin : Int32 × qaM} (hC : QC X l Y cX6_put RX6 5 2) (hQ : QRi X Y (some .int) fin.2 fin.1) {m : qaM} {v1 : Int32} {v2 : Int32} {v3 : Int32} {s0 : Int32} {s1 : Int32} {z : (Int32 × qaM)} (hf : b_X6_put_38 m v1 v2 v3 s0 s1 = some z) (hK : (qa_eq fin) z) : QG X Y 5 m 38 [(0, .ref (Y.2.2.1 0)), (1, .int v1), (2, .int v2), (3, .int v3)] [.int s1, .int s0] := by
  unfold b_X6_put_38 at hf
  refine qi_icmp_le (tgt := 44) hC (by decide) dX6_put_38 (fun h => ?_) (fun h => ?_)
  · replace hf := qa_if_t h hf
    refine qi_aload_n hC 0 rfl rfl dX6_put_44 ?_
    refine qi_getr hC kf_X6_28 sh_0 rfl dX6_put_45 ?_
    refine qi_getr hC kf_X6_52 sh_8 rfl dX6_put_48 ?_
    refine qi_iload_n hC 1 rfl rfl dX6_put_51 ?_
    refine qi_iconst hC dX6_put_52 kn_iconst_2 ?_
    refine qi_iload_n hC 2 rfl rfl dX6_put_53 ?_
    refine qi_iadd hC dX6_put_54 ?_
    obtain ⟨q2, hq2, hf⟩ := Option.bind_eq_some_iff.mp hf
    refine qi_callVi hC (as := [.int v1, .int ((2 : Int32) + v2)]) (c_X1_fact _ _ hou_8.2.1 _ _ _ _ hq2) kl_X6_130 sh_9 kc_X1_fact rfl rfl (by decide) (by decide) (Nat.le_of_ble_eq_true rfl) dX6_put_55 ?_
    refine qi_istore hC (by decide) rfl dX6_put_58 ?_
    refine qi_aload_n hC 1 rfl rfl dX6_put_60 ?_
    refine qi_getr hC kf_X6_28 sh_0 rfl dX6_put_61 ?_
    refine qi_getr hC kf_X6_52 sh_8 rfl dX6_put_64 ?_
    refine qi_iload_n hC 2 rfl rfl dX6_put_67 ?_
    refine qi_iconst hC dX6_put_68 kn_iconst_2 ?_
    refine qi_iload_n hC 3 rfl rfl dX6_put_69 ?_
    refine qi_iadd hC dX6_put_70 ?_
    refine qi_iload_n hC 4 rfl rfl dX6_put_71 ?_
    obtain ⟨q3, hq3, hf⟩ := Option.bind_eq_some_iff.mp hf
    refine qi_callVv hC (as := [.int v1, .int ((2 : Int32) + v2), .int v3]) (c_X1_notes _ _ hou_8.2.1 _ _ _ _ _ hq3) kl_X6_133 sh_9 kc_X1_notes rfl rfl (by decide) (by decide) (Nat.le_of_ble_eq_true rfl) dX6_put_72 ?_
    refine qi_iload hC 0 rfl dX6_put_75 ?_
    obtain rfl := Option.some.inj hf
    exact qi_ireti hC hQ hK dX6_put_77
  · replace hf := qa_if_f h hf
    refine qi_bipush hC dX6_put_41 kn_bipush_m7 ?_
    obtain rfl := Option.some.inj hf
    exact qi_ireti hC hQ hK dX6_put_43
set_option maxRecDepth 100000 in
set_option maxHeartbeats 4000000 in
theorem c_X6_put (l : Launch) (Y : qaY) (m : qaM) (v1 : Int32) (v2 : Int32) (v3 : Int32) (q : Int32 × qaM) (hf : f_X6_put m v1 v2 v3 = some q) : qaMi l Y yX6_put cX6_put 5 (some .int) 2 [.ref (Y.2.2.1 0), .int v1, .int v2, .int v3] m q.2 q.1 := by
  refine qa_enti (by decide +kernel) (Nat.le_of_ble_eq_true rfl) fun X hC hQ => ?_
  have hK : qa_eq q q := rfl
  unfold f_X6_put at hf
  refine qi_aload_n hC 0 rfl rfl dX6_put_0 ?_
  refine qi_iload_n hC 1 rfl rfl dX6_put_1 ?_
  obtain ⟨q1, hq1, hf⟩ := Option.bind_eq_some_iff.mp hf
  refine qi_callVi hC (as := [.int v1]) (c_X6_isLinen _ _ _ _ _ hq1) kl_X6_123 sh_0 kc_X6_isLinen rfl rfl (by decide) (by decide) (Nat.le_of_ble_eq_true rfl) dX6_put_2 ?_
  refine qi_if_ne (tgt := 11) hC (by decide) dX6_put_5 (fun h => ?_) (fun h => ?_)
  · replace hf := qa_if_f h hf
    refine qi_iload_n hC 2 rfl rfl dX6_put_11 ?_
    refine qi_if_lt (tgt := 41) hC (by decide) dX6_put_12 (fun h => ?_) (fun h => ?_)
    · replace hf := qa_if_t h hf
      refine qi_bipush hC dX6_put_41 kn_bipush_m7 ?_
      obtain rfl := Option.some.inj hf
      exact qi_ireti hC hQ hK dX6_put_43
    · replace hf := qa_if_f h hf
      refine qi_iload_n hC 2 rfl rfl dX6_put_15 ?_
      refine qi_iconst hC dX6_put_16 kn_iconst_2 ?_
      refine qi_icmp_gt (tgt := 41) hC (by decide) dX6_put_17 (fun h => ?_) (fun h => ?_)
      · replace hf := qa_if_t h hf
        refine qi_bipush hC dX6_put_41 kn_bipush_m7 ?_
        obtain rfl := Option.some.inj hf
        exact qi_ireti hC hQ hK dX6_put_43
      · replace hf := qa_if_f h hf
        refine qi_iload_n hC 3 rfl rfl dX6_put_20 ?_
        refine qi_if_lt (tgt := 41) hC (by decide) dX6_put_21 (fun h => ?_) (fun h => ?_)
        · replace hf := qa_if_t h hf
          refine qi_bipush hC dX6_put_41 kn_bipush_m7 ?_
          obtain rfl := Option.some.inj hf
          exact qi_ireti hC hQ hK dX6_put_43
        · replace hf := qa_if_f h hf
          refine qi_iload_n hC 3 rfl rfl dX6_put_24 ?_
          refine qi_iload_n hC 2 rfl rfl dX6_put_25 ?_
          refine qi_iconst hC dX6_put_26 kn_iconst_1 ?_
          refine qi_icmp_ne (tgt := 35) hC (by decide) dX6_put_27 (fun h => ?_) (fun h => ?_)
          · replace hf := qa_if_f h hf
            refine qi_sipush hC dX6_put_35 kn_sipush_999 ?_
            exact t_X6_put_38 hC hQ hf hK
          · replace hf := qa_if_t h hf
            refine qi_bipush hC dX6_put_30 kn_bipush_99 ?_
            refine qi_goto (tgt := 38) hC (by decide) dX6_put_32 ?_
            exact t_X6_put_38 hC hQ hf hK
  · replace hf := qa_if_t h hf
    refine qi_bipush hC dX6_put_8 kn_bipush_m5 ?_
    obtain rfl := Option.some.inj hf
    exact qi_ireti hC hQ hK dX6_put_10
set_option maxRecDepth 100000 in
set_option maxHeartbeats 4000000 in
theorem c_X6_lies (l : Launch) (Y : qaY) (m : qaM) (v1 : Int32) (q : Int32) (hf : f_X6_lies m v1 = some q) : qaMi l Y yX6_lies cX6_lies 2 (some .int) 2 [.ref (Y.2.2.1 0), .int v1] m m q := by
  refine qa_enti (by decide +kernel) (Nat.le_of_ble_eq_true rfl) fun X hC hQ => ?_
  have hK : qa_eq q q := rfl
  unfold f_X6_lies at hf
  refine qi_aload_n hC 0 rfl rfl dX6_lies_0 ?_
  refine qi_getr hC kf_X6_28 sh_0 rfl dX6_lies_1 ?_
  refine qi_getr hC kf_X6_62 sh_8 rfl dX6_lies_4 ?_
  refine qi_iload_n hC 1 rfl rfl dX6_lies_7 ?_
  obtain ⟨q1, hq1, hf⟩ := Option.bind_eq_some_iff.mp hf
  refine qi_callVi hC (as := [.int v1]) (c_X2_isPlace _ _ hou_8.2.2.1 _ _ _ hq1) kl_X6_137 sh_11 kc_X2_isPlace rfl rfl (by decide) (by decide) (Nat.le_of_ble_eq_true rfl) dX6_lies_8 ?_
  refine qi_if_eq (tgt := 28) hC (by decide) dX6_lies_11 (fun h => ?_) (fun h => ?_)
  · replace hf := qa_if_t h hf
    refine qi_bipush hC dX6_lies_28 kn_bipush_m6 ?_
    obtain rfl := Option.some.inj hf
    exact qi_ireti hC hQ (congrArg (fun w => (w, m)) hK) dX6_lies_30
  · replace hf := qa_if_f h hf
    refine qi_aload_n hC 0 rfl rfl dX6_lies_14 ?_
    refine qi_getr hC kf_X6_28 sh_0 rfl dX6_lies_15 ?_
    refine qi_getr hC kf_X6_62 sh_8 rfl dX6_lies_18 ?_
    refine qi_iload_n hC 1 rfl rfl dX6_lies_21 ?_
    obtain ⟨q2, hq2, hf⟩ := Option.bind_eq_some_iff.mp hf
    refine qi_callVi hC (as := [.int v1]) (c_X2_at _ _ hou_8.2.2.1 _ _ _ hq2) kl_X6_140 sh_11 kc_X2_at rfl rfl (by decide) (by decide) (Nat.le_of_ble_eq_true rfl) dX6_lies_22 ?_
    refine qi_goto (tgt := 30) hC (by decide) dX6_lies_25 ?_
    obtain rfl := Option.some.inj hf
    exact qi_ireti hC hQ (congrArg (fun w => (w, m)) hK) dX6_lies_30
set_option maxRecDepth 100000 in
set_option maxHeartbeats 4000000 in
theorem c_X6_turn (l : Launch) (Y : qaY) (m : qaM) (v1 : Int32) (q : Int32 × qaM) (hf : f_X6_turn m v1 = some q) : qaMi l Y yX6_turn cX6_turn 2 (some .int) 4 [.ref (Y.2.2.1 0), .int v1] m q.2 q.1 := by
  refine qa_enti (by decide +kernel) (Nat.le_of_ble_eq_true rfl) fun X hC hQ => ?_
  have hK : qa_eq q q := rfl
  unfold f_X6_turn at hf
  refine qi_aload_n hC 0 rfl rfl dX6_turn_0 ?_
  refine qi_iload_n hC 1 rfl rfl dX6_turn_1 ?_
  obtain ⟨q1, hq1, hf⟩ := Option.bind_eq_some_iff.mp hf
  refine qi_callVi hC (as := [.int v1]) (c_X6_isLinen _ _ _ _ _ hq1) kl_X6_123 sh_0 kc_X6_isLinen rfl rfl (by decide) (by decide) (Nat.le_of_ble_eq_true rfl) dX6_turn_2 ?_
  refine qi_if_ne (tgt := 11) hC (by decide) dX6_turn_5 (fun h => ?_) (fun h => ?_)
  · replace hf := qa_if_f h hf
    refine qi_aload_n hC 0 rfl rfl dX6_turn_11 ?_
    refine qi_getr hC kf_X6_28 sh_0 rfl dX6_turn_12 ?_
    refine qi_iload_n hC 1 rfl rfl dX6_turn_15 ?_
    obtain ⟨q2, hq2, hf⟩ := Option.bind_eq_some_iff.mp hf
    refine qi_callVi hC (as := [.int v1]) (c_X0_canTurn _ _ hou_8 _ _ _ hq2) kl_X6_143 sh_8 kc_X0_canTurn rfl rfl (by decide) (by decide) (Nat.le_of_ble_eq_true rfl) dX6_turn_16 ?_
    refine qi_if_ne (tgt := 25) hC (by decide) dX6_turn_19 (fun h => ?_) (fun h => ?_)
    · replace hf := qa_if_f h hf
      refine qi_aload_n hC 0 rfl rfl dX6_turn_25 ?_
      refine qi_getr hC kf_X6_28 sh_0 rfl dX6_turn_26 ?_
      refine qi_iload_n hC 1 rfl rfl dX6_turn_29 ?_
      obtain ⟨q3, hq3, hf⟩ := Option.bind_eq_some_iff.mp hf
      refine qi_callVv hC (as := [.int v1]) (c_X0_turnsOver _ _ hou_8 _ _ _ hq3) kl_X6_146 sh_8 kc_X0_turnsOver rfl rfl (by decide) (by decide) (Nat.le_of_ble_eq_true rfl) dX6_turn_30 ?_
      refine qi_aload_n hC 0 rfl rfl dX6_turn_33 ?_
      refine qi_getr hC kf_X6_28 sh_0 rfl dX6_turn_34 ?_
      refine qi_getr hC kf_X6_52 sh_8 rfl dX6_turn_37 ?_
      refine qi_iload_n hC 1 rfl rfl dX6_turn_40 ?_
      refine qi_iconst hC dX6_turn_41 kn_iconst_2 ?_
      obtain ⟨q4, hq4, hf⟩ := Option.bind_eq_some_iff.mp hf
      refine qi_callVi hC (as := [.int v1, .int (2 : Int32)]) (c_X1_fact _ _ hou_8.2.1 _ _ _ _ hq4) kl_X6_130 sh_9 kc_X1_fact rfl rfl (by decide) (by decide) (Nat.le_of_ble_eq_true rfl) dX6_turn_42 ?_
      obtain rfl := Option.some.inj hf
      exact qi_ireti hC hQ hK dX6_turn_45
    · replace hf := qa_if_t h hf
      refine qi_bipush hC dX6_turn_22 kn_bipush_m3 ?_
      obtain rfl := Option.some.inj hf
      exact qi_ireti hC hQ hK dX6_turn_24
  · replace hf := qa_if_t h hf
    refine qi_bipush hC dX6_turn_8 kn_bipush_m5 ?_
    obtain rfl := Option.some.inj hf
    exact qi_ireti hC hQ hK dX6_turn_10
set_option maxRecDepth 100000 in
set_option maxHeartbeats 4000000 in
theorem c_X6_next (l : Launch) (Y : qaY) (m : qaM) (q : Int32) (hf : f_X6_next m = some q) : qaMi l Y yX6_next cX6_next 1 (some .int) 3 [.ref (Y.2.2.1 0)] m m q := by
  refine qa_enti (by decide +kernel) (Nat.le_of_ble_eq_true rfl) fun X hC hQ => ?_
  have hK : qa_eq q q := rfl
  unfold f_X6_next at hf
  refine qi_aload_n hC 0 rfl rfl dX6_next_0 ?_
  refine qi_getr hC kf_X6_28 sh_0 rfl dX6_next_1 ?_
  refine qi_getr hC kf_X6_62 sh_8 rfl dX6_next_4 ?_
  refine qi_aload_n hC 0 rfl rfl dX6_next_7 ?_
  refine qi_getr hC kf_X6_28 sh_0 rfl dX6_next_8 ?_
  refine qi_aload_n hC 0 rfl rfl dX6_next_11 ?_
  refine qi_getr hC kf_X6_28 sh_0 rfl dX6_next_12 ?_
  refine qi_getr hC kf_X6_71 sh_8 rfl dX6_next_15 ?_
  refine qi_iconst hC dX6_next_18 kn_iconst_2 ?_
  refine qi_iald hC tn_2 sh_13 vi_2_4 dX6_next_19 ?_
  obtain ⟨q1, hq1, hf⟩ := Option.bind_eq_some_iff.mp hf
  refine qi_callVi hC (as := [.int (m 13 2)]) (c_X0_placeToTake _ _ hou_8 _ _ _ hq1) kl_X6_149 sh_8 kc_X0_placeToTake rfl rfl (by decide) (by decide) (Nat.le_of_ble_eq_true rfl) dX6_next_20 ?_
  obtain ⟨q2, hq2, hf⟩ := Option.bind_eq_some_iff.mp hf
  refine qi_callVi hC (as := [.int q1]) (c_X2_at _ _ hou_8.2.2.1 _ _ _ hq2) kl_X6_140 sh_11 kc_X2_at rfl rfl (by decide) (by decide) (Nat.le_of_ble_eq_true rfl) dX6_next_23 ?_
  obtain rfl := Option.some.inj hf
  exact qi_ireti hC hQ (congrArg (fun w => (w, m)) hK) dX6_next_26
set_option maxRecDepth 100000 in
set_option maxHeartbeats 4000000 in
theorem t_X6_pileUp_38 {X : qaX} {l : Launch} {Y : qaY} {fin : Int32 × qaM} (hC : QC X l Y cX6_pileUp RX6 2 4) (hQ : QRi X Y (some .int) fin.2 fin.1) {m : qaM} {z : (Int32 × qaM)} (hf : b_X6_pileUp_38 m = some z) (hK : (qa_eq fin) z) : QG X Y 2 m 38 [(0, .ref (Y.2.2.1 0))] [] := by
  unfold b_X6_pileUp_38 at hf
  refine qi_aload_n hC 0 rfl rfl dX6_pileUp_38 ?_
  refine qi_getr hC kf_X6_28 sh_0 rfl dX6_pileUp_39 ?_
  refine qi_getr hC kf_X6_62 sh_8 rfl dX6_pileUp_42 ?_
  refine qi_iconst hC dX6_pileUp_45 kn_iconst_0 ?_
  obtain ⟨q2, hq2, hf⟩ := Option.bind_eq_some_iff.mp hf
  refine qi_callVi hC (as := [.int (0 : Int32)]) (c_X2_at _ _ hou_8.2.2.1 _ _ _ hq2) kl_X6_140 sh_11 kc_X2_at rfl rfl (by decide) (by decide) (Nat.le_of_ble_eq_true rfl) dX6_pileUp_46 ?_
  obtain rfl := Option.some.inj hf
  exact qi_ireti hC hQ hK dX6_pileUp_49
set_option maxRecDepth 100000 in
set_option maxHeartbeats 4000000 in
theorem c_X6_pileUp (l : Launch) (Y : qaY) (m : qaM) (v1 : Int32) (q : Int32 × qaM) (hf : f_X6_pileUp m v1 = some q) : qaMi l Y yX6_pileUp cX6_pileUp 2 (some .int) 4 [.ref (Y.2.2.1 0), .int v1] m q.2 q.1 := by
  refine qa_enti (by decide +kernel) (Nat.le_of_ble_eq_true rfl) fun X hC hQ => ?_
  have hK : qa_eq q q := rfl
  unfold f_X6_pileUp at hf
  refine qi_iload_n hC 1 rfl rfl dX6_pileUp_0 ?_
  refine qi_if_lt (tgt := 9) hC (by decide) dX6_pileUp_1 (fun h => ?_) (fun h => ?_)
  · replace hf := qa_if_t h hf
    refine qi_bipush hC dX6_pileUp_9 kn_bipush_m2 ?_
    obtain rfl := Option.some.inj hf
    exact qi_ireti hC hQ hK dX6_pileUp_11
  · replace hf := qa_if_f h hf
    refine qi_iload_n hC 1 rfl rfl dX6_pileUp_4 ?_
    refine qi_iconst hC dX6_pileUp_5 kn_iconst_3 ?_
    refine qi_icmp_le (tgt := 12) hC (by decide) dX6_pileUp_6 (fun h => ?_) (fun h => ?_)
    · replace hf := qa_if_t h hf
      refine qi_iload_n hC 1 rfl rfl dX6_pileUp_12 ?_
      refine qi_iconst hC dX6_pileUp_13 kn_iconst_3 ?_
      refine qi_icmp_ne (tgt := 30) hC (by decide) dX6_pileUp_14 (fun h => ?_) (fun h => ?_)
      · replace hf := qa_if_f h hf
        refine qi_aload_n hC 0 rfl rfl dX6_pileUp_30 ?_
        refine qi_getr hC kf_X6_28 sh_0 rfl dX6_pileUp_31 ?_
        refine qi_iload_n hC 1 rfl rfl dX6_pileUp_34 ?_
        obtain ⟨q1, hq1, hf⟩ := Option.bind_eq_some_iff.mp hf
        refine qi_callVv hC (as := [.int v1]) (c_X0_sortsPile _ _ hou_8 _ _ _ hq1) kl_X6_155 sh_8 kc_X0_sortsPile rfl rfl (by decide) (by decide) (Nat.le_of_ble_eq_true rfl) dX6_pileUp_35 ?_
        refine qi_sub hC [0] rfl ?_
        exact t_X6_pileUp_38 hC hQ hf hK
      · replace hf := qa_if_t h hf
        refine qi_aload_n hC 0 rfl rfl dX6_pileUp_17 ?_
        refine qi_getr hC kf_X6_28 sh_0 rfl dX6_pileUp_18 ?_
        refine qi_getr hC kf_X6_62 sh_8 rfl dX6_pileUp_21 ?_
        obtain ⟨q3, hq3, hf⟩ := Option.bind_eq_some_iff.mp hf
        refine qi_callVv hC (as := []) (c_X2_turnsUpsideDown _ _ hou_8.2.2.1 _ _ hq3) kl_X6_152 sh_11 kc_X2_turnsUpsideDown rfl rfl (by decide) (by decide) (Nat.le_of_ble_eq_true rfl) dX6_pileUp_24 ?_
        refine qi_goto (tgt := 38) hC (by decide) dX6_pileUp_27 ?_
        refine qi_sub hC [0] rfl ?_
        exact t_X6_pileUp_38 hC hQ hf hK
    · replace hf := qa_if_f h hf
      refine qi_bipush hC dX6_pileUp_9 kn_bipush_m2 ?_
      obtain rfl := Option.some.inj hf
      exact qi_ireti hC hQ hK dX6_pileUp_11
set_option maxRecDepth 100000 in
set_option maxHeartbeats 4000000 in
theorem c_X6_live (l : Launch) (Y : qaY) (m : qaM) (q : Int32 × qaM) (hf : f_X6_live m = some q) : qaMi l Y yX6_live cX6_live 1 (some .int) 5 [.ref (Y.2.2.1 0)] m q.2 q.1 := by
  refine qa_enti (by decide +kernel) (Nat.le_of_ble_eq_true rfl) fun X hC hQ => ?_
  have hK : qa_eq q q := rfl
  unfold f_X6_live at hf
  refine qi_aload_n hC 0 rfl rfl dX6_live_0 ?_
  refine qi_getr hC kf_X6_28 sh_0 rfl dX6_live_1 ?_
  refine qi_geti hC kf_X6_75 sh_8 rfl dX6_live_4 ?_
  refine qi_sipush hC dX6_live_7 kn_sipush_999 ?_
  refine qi_icmp_lt (tgt := 16) hC (by decide) dX6_live_10 (fun h => ?_) (fun h => ?_)
  · replace hf := qa_if_t h hf
    refine qi_aload_n hC 0 rfl rfl dX6_live_16 ?_
    refine qi_getr hC kf_X6_28 sh_0 rfl dX6_live_17 ?_
    refine qi_aload_n hC 0 rfl rfl dX6_live_20 ?_
    refine qi_getr hC kf_X6_28 sh_0 rfl dX6_live_21 ?_
    refine qi_getr hC kf_X6_71 sh_8 rfl dX6_live_24 ?_
    refine qi_iconst hC dX6_live_27 kn_iconst_0 ?_
    refine qi_iald hC tn_0 sh_13 vi_0_4 dX6_live_28 ?_
    refine qi_aload_n hC 0 rfl rfl dX6_live_29 ?_
    refine qi_getr hC kf_X6_28 sh_0 rfl dX6_live_30 ?_
    refine qi_getr hC kf_X6_71 sh_8 rfl dX6_live_33 ?_
    refine qi_iconst hC dX6_live_36 kn_iconst_2 ?_
    refine qi_iald hC tn_2 sh_13 vi_2_4 dX6_live_37 ?_
    obtain ⟨q1, hq1, hf⟩ := Option.bind_eq_some_iff.mp hf
    refine qi_callVi hC (as := [.int (m 13 0), .int (m 13 2)]) (c_X0_livesWeek _ _ hou_8 _ _ _ _ hq1) kl_X6_158 sh_8 kc_X0_livesWeek rfl rfl (by decide) (by decide) (Nat.le_of_ble_eq_true rfl) dX6_live_38 ?_
    obtain rfl := Option.some.inj hf
    exact qi_ireti hC hQ hK dX6_live_41
  · replace hf := qa_if_f h hf
    refine qi_bipush hC dX6_live_13 kn_bipush_m4 ?_
    obtain rfl := Option.some.inj hf
    exact qi_ireti hC hQ hK dX6_live_15
set_option maxRecDepth 100000 in
set_option maxHeartbeats 4000000 in
theorem c_X6_thinks (l : Launch) (Y : qaY) (m : qaM) (v1 : Int32) (q : qaM) (hf : f_X6_thinks m v1 = some q) : qaMv l Y yX6_thinks cX6_thinks 2 6 [.ref (Y.2.2.1 0), .int v1] m q := by
  refine qa_entv (by decide +kernel) (Nat.le_of_ble_eq_true rfl) fun X hC hQ => ?_
  have hK : qa_eq q q := rfl
  unfold f_X6_thinks at hf
  refine qi_aload_n hC 0 rfl rfl dX6_thinks_0 ?_
  refine qi_getr hC kf_X6_35 sh_0 rfl dX6_thinks_1 ?_
  refine qi_aload_n hC 0 rfl rfl dX6_thinks_4 ?_
  refine qi_getr hC kf_X6_28 sh_0 rfl dX6_thinks_5 ?_
  obtain ⟨q1, hq1, hf⟩ := Option.bind_eq_some_iff.mp hf
  refine qi_callVv hC (as := [.ref (Y.2.2.1 8)]) (c_X0_beginsAs _ _ hou_20 hou_8 _ _ hq1) kl_X6_188 sh_20 kc_X0_beginsAs rfl rfl (by decide) (by decide) (Nat.le_of_ble_eq_true rfl) dX6_thinks_8 ?_
  refine qi_aload_n hC 0 rfl rfl dX6_thinks_11 ?_
  refine qi_getr hC kf_X6_35 sh_0 rfl dX6_thinks_12 ?_
  refine qi_iload_n hC 1 rfl rfl dX6_thinks_15 ?_
  obtain ⟨q2, hq2, hf⟩ := Option.bind_eq_some_iff.mp hf
  refine qi_callVv hC (as := [.int v1]) (c_X0_livesWeeks _ _ hou_20 _ _ _ hq2) kl_X6_192 sh_20 kc_X0_livesWeeks rfl rfl (by decide) (by decide) (Nat.le_of_ble_eq_true rfl) dX6_thinks_16 ?_
  obtain rfl := Option.some.inj hf
  exact qi_vret hC hQ hK dX6_thinks_19
set_option maxRecDepth 100000 in
set_option maxHeartbeats 4000000 in
theorem c_X6_run (l : Launch) (Y : qaY) (m : qaM) (v1 : Int32) (v2 : Int32) (q : Int32 × qaM) (hf : f_X6_run m v1 v2 = some q) : qaMi l Y yX6_run cX6_run 3 (some .int) 7 [.ref (Y.2.2.1 0), .int v1, .int v2] m q.2 q.1 := by
  refine qa_enti (by decide +kernel) (Nat.le_of_ble_eq_true rfl) fun X hC hQ => ?_
  have hK : qa_eq q q := rfl
  unfold f_X6_run at hf
  refine qi_iload_n hC 1 rfl rfl dX6_run_0 ?_
  obtain ⟨q1, hq1, hf⟩ := Option.bind_eq_some_iff.mp hf
  refine qi_callSi hC (as := [.int v1]) (c_X6_isWeeks _ _ _ _ _ hq1) kl_X6_161 kc_X6_isWeeks rfl rfl (by decide) (by decide) (Nat.le_of_ble_eq_true rfl) dX6_run_1 ?_
  refine qi_if_eq (tgt := 16) hC (by decide) dX6_run_4 (fun h => ?_) (fun h => ?_)
  · replace hf := qa_if_t h hf
    refine qi_bipush hC dX6_run_16 kn_bipush_m2 ?_
    obtain rfl := Option.some.inj hf
    exact qi_ireti hC hQ hK dX6_run_18
  · replace hf := qa_if_f h hf
    refine qi_iload_n hC 2 rfl rfl dX6_run_7 ?_
    refine qi_if_lt (tgt := 16) hC (by decide) dX6_run_8 (fun h => ?_) (fun h => ?_)
    · replace hf := qa_if_t h hf
      refine qi_bipush hC dX6_run_16 kn_bipush_m2 ?_
      obtain rfl := Option.some.inj hf
      exact qi_ireti hC hQ hK dX6_run_18
    · replace hf := qa_if_f h hf
      refine qi_iload_n hC 2 rfl rfl dX6_run_11 ?_
      refine qi_iconst hC dX6_run_12 kn_iconst_4 ?_
      refine qi_icmp_le (tgt := 19) hC (by decide) dX6_run_13 (fun h => ?_) (fun h => ?_)
      · replace hf := qa_if_t h hf
        refine qi_aload_n hC 0 rfl rfl dX6_run_19 ?_
        refine qi_iload_n hC 1 rfl rfl dX6_run_20 ?_
        obtain ⟨q2, hq2, hf⟩ := Option.bind_eq_some_iff.mp hf
        refine qi_callVv hC (as := [.int v1]) (c_X6_thinks _ _ _ _ _ hq2) kl_X6_164 sh_0 kc_X6_thinks rfl rfl (by decide) (by decide) (Nat.le_of_ble_eq_true rfl) dX6_run_21 ?_
        refine qi_iload_n hC 2 rfl rfl dX6_run_24 ?_
        by_cases h3 : v2 = (0 : Int32)
        · replace hf := qa_if_t h3 hf
          refine qi_tabIn (tgt := 56) (off := 31) hC dX6_run_25 (by rw [h3] <;> decide) (by rw [h3] <;> decide) (by rw [h3] <;> decide) (by decide) ?_
          refine qi_aload_n hC 0 rfl rfl dX6_run_56 ?_
          refine qi_getr hC kf_X6_35 sh_0 rfl dX6_run_57 ?_
          refine qi_getr hC kf_X6_52 sh_20 rfl dX6_run_60 ?_
          obtain ⟨q4, hq4, hf⟩ := Option.bind_eq_some_iff.mp hf
          refine qi_callVi hC (as := []) (c_X1_left _ _ hou_20.2.1 _ _ hq4) kl_X6_167 sh_21 kc_X1_left rfl rfl (by decide) (by decide) (Nat.le_of_ble_eq_true rfl) dX6_run_63 ?_
          obtain rfl := Option.some.inj hf
          exact qi_ireti hC hQ hK dX6_run_66
        replace hf := qa_if_f h3 hf
        by_cases h5 : v2 = (1 : Int32)
        · replace hf := qa_if_t h5 hf
          refine qi_tabIn (tgt := 67) (off := 42) hC dX6_run_25 (by rw [h5] <;> decide) (by rw [h5] <;> decide) (by rw [h5] <;> decide) (by decide) ?_
          refine qi_aload_n hC 0 rfl rfl dX6_run_67 ?_
          refine qi_getr hC kf_X6_35 sh_0 rfl dX6_run_68 ?_
          refine qi_geti hC kf_X6_170 sh_20 rfl dX6_run_71 ?_
          obtain rfl := Option.some.inj hf
          exact qi_ireti hC hQ hK dX6_run_74
        replace hf := qa_if_f h5 hf
        by_cases h6 : v2 = (2 : Int32)
        · replace hf := qa_if_t h6 hf
          refine qi_tabIn (tgt := 75) (off := 50) hC dX6_run_25 (by rw [h6] <;> decide) (by rw [h6] <;> decide) (by rw [h6] <;> decide) (by decide) ?_
          refine qi_aload_n hC 0 rfl rfl dX6_run_75 ?_
          refine qi_getr hC kf_X6_35 sh_0 rfl dX6_run_76 ?_
          refine qi_geti hC kf_X6_173 sh_20 rfl dX6_run_79 ?_
          obtain rfl := Option.some.inj hf
          exact qi_ireti hC hQ hK dX6_run_82
        replace hf := qa_if_f h6 hf
        by_cases h7 : v2 = (3 : Int32)
        · replace hf := qa_if_t h7 hf
          refine qi_tabIn (tgt := 83) (off := 58) hC dX6_run_25 (by rw [h7] <;> decide) (by rw [h7] <;> decide) (by rw [h7] <;> decide) (by decide) ?_
          refine qi_aload_n hC 0 rfl rfl dX6_run_83 ?_
          refine qi_getr hC kf_X6_35 sh_0 rfl dX6_run_84 ?_
          refine qi_geti hC kf_X6_176 sh_20 rfl dX6_run_87 ?_
          obtain rfl := Option.some.inj hf
          exact qi_ireti hC hQ hK dX6_run_90
        replace hf := qa_if_f h7 hf
        refine qi_tabOut (tgt := 91) hC dX6_run_25 (by have nh3 := lv_neT (a := 0) h3 (by decide); have nh5 := lv_neT (a := 1) h5 (by decide); have nh6 := lv_neT (a := 2) h6 (by decide); have nh7 := lv_neT (a := 3) h7 (by decide); omega) (by decide) ?_
        refine qi_aload_n hC 0 rfl rfl dX6_run_91 ?_
        refine qi_getr hC kf_X6_35 sh_0 rfl dX6_run_92 ?_
        refine qi_getr hC kf_X6_52 sh_20 rfl dX6_run_95 ?_
        obtain ⟨q8, hq8, hf⟩ := Option.bind_eq_some_iff.mp hf
        refine qi_callVi hC (as := []) (c_X1_mostWorn _ _ hou_20.2.1 _ _ hq8) kl_X6_179 sh_21 kc_X1_mostWorn rfl rfl (by decide) (by decide) (Nat.le_of_ble_eq_true rfl) dX6_run_98 ?_
        obtain rfl := Option.some.inj hf
        exact qi_ireti hC hQ hK dX6_run_101
      · replace hf := qa_if_f h hf
        refine qi_bipush hC dX6_run_16 kn_bipush_m2 ?_
        obtain rfl := Option.some.inj hf
        exact qi_ireti hC hQ hK dX6_run_18
set_option maxRecDepth 100000 in
set_option maxHeartbeats 4000000 in
theorem c_X6_then (l : Launch) (Y : qaY) (m : qaM) (v1 : Int32) (v2 : Int32) (v3 : Int32) (q : Int32 × qaM) (hf : f_X6_then m v1 v2 v3 = some q) : qaMi l Y yX6_then cX6_then 4 (some .int) 7 [.ref (Y.2.2.1 0), .int v1, .int v2, .int v3] m q.2 q.1 := by
  refine qa_enti (by decide +kernel) (Nat.le_of_ble_eq_true rfl) fun X hC hQ => ?_
  have hK : qa_eq q q := rfl
  unfold f_X6_then at hf
  refine qi_aload_n hC 0 rfl rfl dX6_then_0 ?_
  refine qi_iload_n hC 1 rfl rfl dX6_then_1 ?_
  obtain ⟨q1, hq1, hf⟩ := Option.bind_eq_some_iff.mp hf
  refine qi_callVi hC (as := [.int v1]) (c_X6_isLinen _ _ _ _ _ hq1) kl_X6_123 sh_0 kc_X6_isLinen rfl rfl (by decide) (by decide) (Nat.le_of_ble_eq_true rfl) dX6_then_2 ?_
  refine qi_if_ne (tgt := 11) hC (by decide) dX6_then_5 (fun h => ?_) (fun h => ?_)
  · replace hf := qa_if_f h hf
    refine qi_iload_n hC 2 rfl rfl dX6_then_11 ?_
    obtain ⟨q2, hq2, hf⟩ := Option.bind_eq_some_iff.mp hf
    refine qi_callSi hC (as := [.int v2]) (c_X6_isWeeks _ _ _ _ _ hq2) kl_X6_161 kc_X6_isWeeks rfl rfl (by decide) (by decide) (Nat.le_of_ble_eq_true rfl) dX6_then_12 ?_
    refine qi_if_eq (tgt := 27) hC (by decide) dX6_then_15 (fun h => ?_) (fun h => ?_)
    · replace hf := qa_if_t h hf
      refine qi_bipush hC dX6_then_27 kn_bipush_m7 ?_
      obtain rfl := Option.some.inj hf
      exact qi_ireti hC hQ hK dX6_then_29
    · replace hf := qa_if_f h hf
      refine qi_iload_n hC 3 rfl rfl dX6_then_18 ?_
      refine qi_if_lt (tgt := 27) hC (by decide) dX6_then_19 (fun h => ?_) (fun h => ?_)
      · replace hf := qa_if_t h hf
        refine qi_bipush hC dX6_then_27 kn_bipush_m7 ?_
        obtain rfl := Option.some.inj hf
        exact qi_ireti hC hQ hK dX6_then_29
      · replace hf := qa_if_f h hf
        refine qi_iload_n hC 3 rfl rfl dX6_then_22 ?_
        refine qi_iconst hC dX6_then_23 kn_iconst_1 ?_
        refine qi_icmp_le (tgt := 30) hC (by decide) dX6_then_24 (fun h => ?_) (fun h => ?_)
        · replace hf := qa_if_t h hf
          refine qi_aload_n hC 0 rfl rfl dX6_then_30 ?_
          refine qi_iload_n hC 2 rfl rfl dX6_then_31 ?_
          obtain ⟨q3, hq3, hf⟩ := Option.bind_eq_some_iff.mp hf
          refine qi_callVv hC (as := [.int v2]) (c_X6_thinks _ _ _ _ _ hq3) kl_X6_164 sh_0 kc_X6_thinks rfl rfl (by decide) (by decide) (Nat.le_of_ble_eq_true rfl) dX6_then_32 ?_
          refine qi_aload_n hC 0 rfl rfl dX6_then_35 ?_
          refine qi_getr hC kf_X6_35 sh_0 rfl dX6_then_36 ?_
          refine qi_getr hC kf_X6_52 sh_20 rfl dX6_then_39 ?_
          refine qi_iload_n hC 1 rfl rfl dX6_then_42 ?_
          refine qi_iconst hC dX6_then_43 kn_iconst_2 ?_
          refine qi_iload_n hC 3 rfl rfl dX6_then_44 ?_
          refine qi_iadd hC dX6_then_45 ?_
          obtain ⟨q4, hq4, hf⟩ := Option.bind_eq_some_iff.mp hf
          refine qi_callVi hC (as := [.int v1, .int ((2 : Int32) + v3)]) (c_X1_fact _ _ hou_20.2.1 _ _ _ _ hq4) kl_X6_130 sh_21 kc_X1_fact rfl rfl (by decide) (by decide) (Nat.le_of_ble_eq_true rfl) dX6_then_46 ?_
          obtain rfl := Option.some.inj hf
          exact qi_ireti hC hQ hK dX6_then_49
        · replace hf := qa_if_f h hf
          refine qi_bipush hC dX6_then_27 kn_bipush_m7 ?_
          obtain rfl := Option.some.inj hf
          exact qi_ireti hC hQ hK dX6_then_29
  · replace hf := qa_if_t h hf
    refine qi_bipush hC dX6_then_8 kn_bipush_m5 ?_
    obtain rfl := Option.some.inj hf
    exact qi_ireti hC hQ hK dX6_then_10
set_option maxRecDepth 100000 in
set_option maxHeartbeats 4000000 in
theorem c_X6_cost (l : Launch) (Y : qaY) (m : qaM) (v1 : Int32) (q : Int32 × qaM) (hf : f_X6_cost m v1 = some q) : qaMi l Y yX6_cost cX6_cost 2 (some .int) 7 [.ref (Y.2.2.1 0), .int v1] m q.2 q.1 := by
  refine qa_enti (by decide +kernel) (Nat.le_of_ble_eq_true rfl) fun X hC hQ => ?_
  have hK : qa_eq q q := rfl
  unfold f_X6_cost at hf
  refine qi_iload_n hC 1 rfl rfl dX6_cost_0 ?_
  obtain ⟨q1, hq1, hf⟩ := Option.bind_eq_some_iff.mp hf
  refine qi_callSi hC (as := [.int v1]) (c_X6_isWeeks _ _ _ _ _ hq1) kl_X6_161 kc_X6_isWeeks rfl rfl (by decide) (by decide) (Nat.le_of_ble_eq_true rfl) dX6_cost_1 ?_
  refine qi_if_ne (tgt := 10) hC (by decide) dX6_cost_4 (fun h => ?_) (fun h => ?_)
  · replace hf := qa_if_f h hf
    refine qi_aload_n hC 0 rfl rfl dX6_cost_10 ?_
    refine qi_iload_n hC 1 rfl rfl dX6_cost_11 ?_
    obtain ⟨q2, hq2, hf⟩ := Option.bind_eq_some_iff.mp hf
    refine qi_callVv hC (as := [.int v1]) (c_X6_thinks _ _ _ _ _ hq2) kl_X6_164 sh_0 kc_X6_thinks rfl rfl (by decide) (by decide) (Nat.le_of_ble_eq_true rfl) dX6_cost_12 ?_
    refine qi_aload_n hC 0 rfl rfl dX6_cost_15 ?_
    refine qi_getr hC kf_X6_10 sh_0 rfl dX6_cost_16 ?_
    refine qi_iconst hC dX6_cost_19 kn_iconst_0 ?_
    refine qi_iconst hC dX6_cost_20 kn_iconst_0 ?_
    refine qi_iconst hC dX6_cost_21 kn_iconst_0 ?_
    refine qi_iconst hC dX6_cost_22 kn_iconst_0 ?_
    obtain ⟨q3, hq3, hf⟩ := Option.bind_eq_some_iff.mp hf
    refine qi_callVv hC (as := [.int (0 : Int32), .int (0 : Int32), .int (0 : Int32), .int (0 : Int32)]) (c_X5_tellsLinen _ _ _ _ _ _ _ _ hq3) kl_X6_105 sh_1 kc_X5_tellsLinen rfl rfl (by decide) (by decide) (Nat.le_of_ble_eq_true rfl) dX6_cost_23 ?_
    refine qi_aload_n hC 0 rfl rfl dX6_cost_26 ?_
    refine qi_getr hC kf_X6_10 sh_0 rfl dX6_cost_27 ?_
    refine qi_aload_n hC 0 rfl rfl dX6_cost_30 ?_
    refine qi_getr hC kf_X6_28 sh_0 rfl dX6_cost_31 ?_
    refine qi_geti hC kf_X6_75 sh_8 rfl dX6_cost_34 ?_
    refine qi_aload_n hC 0 rfl rfl dX6_cost_37 ?_
    refine qi_getr hC kf_X6_28 sh_0 rfl dX6_cost_38 ?_
    refine qi_getr hC kf_X6_71 sh_8 rfl dX6_cost_41 ?_
    refine qi_iconst hC dX6_cost_44 kn_iconst_0 ?_
    refine qi_iald hC tn_0 sh_13 vi_0_4 dX6_cost_45 ?_
    obtain ⟨q4, hq4, hf⟩ := Option.bind_eq_some_iff.mp hf
    refine qi_callVv hC (as := [.int (q3 8 3), .int (q3 13 0)]) (c_X5_tellsWeek _ _ _ _ _ _ hq4) kl_X6_109 sh_1 kc_X5_tellsWeek rfl rfl (by decide) (by decide) (Nat.le_of_ble_eq_true rfl) dX6_cost_46 ?_
    refine qi_aload_n hC 0 rfl rfl dX6_cost_49 ?_
    refine qi_getr hC kf_X6_35 sh_0 rfl dX6_cost_50 ?_
    refine qi_geti hC kf_X6_173 sh_20 rfl dX6_cost_53 ?_
    refine qi_aload_n hC 0 rfl rfl dX6_cost_56 ?_
    refine qi_getr hC kf_X6_10 sh_0 rfl dX6_cost_57 ?_
    refine qi_aload_n hC 0 rfl rfl dX6_cost_60 ?_
    refine qi_getr hC kf_X6_28 sh_0 rfl dX6_cost_61 ?_
    refine qi_geti hC kf_X6_79 sh_8 rfl dX6_cost_64 ?_
    refine qi_iconst hC dX6_cost_67 kn_iconst_2 ?_
    obtain ⟨q5, hq5, hf⟩ := Option.bind_eq_some_iff.mp hf
    refine qi_callVi hC (as := [.int (q4 8 4), .int (2 : Int32)]) (c_X5_says _ _ _ _ _ _ hq5) kl_X6_113 sh_1 kc_X5_says rfl rfl (by decide) (by decide) (Nat.le_of_ble_eq_true rfl) dX6_cost_68 ?_
    refine qi_imul hC dX6_cost_71 ?_
    obtain rfl := Option.some.inj hf
    exact qi_ireti hC hQ hK dX6_cost_72
  · replace hf := qa_if_t h hf
    refine qi_bipush hC dX6_cost_7 kn_bipush_m2 ?_
    obtain rfl := Option.some.inj hf
    exact qi_ireti hC hQ hK dX6_cost_9
set_option maxRecDepth 100000 in
set_option maxHeartbeats 4000000 in
theorem t_X6_markOfLasting_22 {X : qaX} {l : Launch} {Y : qaY} {fin : Int32} {m : qaM} (hC : QC X l Y cX6_markOfLasting RX6 3 4) (hQ : QRi X Y (some .int) m fin) {s0 : Int32} {z : (Int32)} (hf : b_X6_markOfLasting_22 m s0 = some z) (hK : (qa_eq fin) z) : QG X Y 3 m 22 [(0, .ref (Y.2.2.1 0))] [.int s0] := by
  unfold b_X6_markOfLasting_22 at hf
  refine qi_istore_n hC rfl (by decide) rfl dX6_markOfLasting_22 ?_
  refine qi_aload_n hC 1 rfl rfl dX6_markOfLasting_23 ?_
  refine qi_getr hC kf_X6_35 sh_0 rfl dX6_markOfLasting_24 ?_
  refine qi_getr hC kf_X6_52 sh_20 rfl dX6_markOfLasting_27 ?_
  obtain ⟨q1, hq1, hf⟩ := Option.bind_eq_some_iff.mp hf
  refine qi_callVi hC (as := []) (c_X1_left _ _ hou_20.2.1 _ _ hq1) kl_X6_167 sh_21 kc_X1_left rfl rfl (by decide) (by decide) (Nat.le_of_ble_eq_true rfl) dX6_markOfLasting_30 ?_
  refine qi_sipush hC dX6_markOfLasting_33 kn_sipush_201 ?_
  refine qi_imul hC dX6_markOfLasting_36 ?_
  refine qi_iload_n hC 0 rfl rfl dX6_markOfLasting_37 ?_
  refine qi_iadd hC dX6_markOfLasting_38 ?_
  obtain rfl := Option.some.inj hf
  exact qi_ireti hC hQ (congrArg (fun w => (w, m)) hK) dX6_markOfLasting_39
set_option maxRecDepth 100000 in
set_option maxHeartbeats 4000000 in
theorem c_X6_markOfLasting (l : Launch) (Y : qaY) (m : qaM) (v1 : Int32) (q : Int32) (hf : f_X6_markOfLasting m v1 = some q) : qaMi l Y yX6_markOfLasting cX6_markOfLasting 3 (some .int) 4 [.ref (Y.2.2.1 0), .int v1] m m q := by
  refine qa_enti (by decide +kernel) (Nat.le_of_ble_eq_true rfl) fun X hC hQ => ?_
  have hK : qa_eq q q := rfl
  unfold f_X6_markOfLasting at hf
  refine qi_aload_n hC 0 rfl rfl dX6_markOfLasting_0 ?_
  refine qi_getr hC kf_X6_35 sh_0 rfl dX6_markOfLasting_1 ?_
  refine qi_geti hC kf_X6_170 sh_20 rfl dX6_markOfLasting_4 ?_
  refine qi_iconst hC dX6_markOfLasting_7 kn_iconst_m1 ?_
  refine qi_icmp_ne (tgt := 15) hC (by decide) dX6_markOfLasting_8 (fun h => ?_) (fun h => ?_)
  · replace hf := qa_if_f h hf
    refine qi_aload_n hC 0 rfl rfl dX6_markOfLasting_15 ?_
    refine qi_getr hC kf_X6_35 sh_0 rfl dX6_markOfLasting_16 ?_
    refine qi_geti hC kf_X6_170 sh_20 rfl dX6_markOfLasting_19 ?_
    refine qi_sub hC [0] rfl ?_
    exact t_X6_markOfLasting_22 hC hQ hf hK
  · replace hf := qa_if_t h hf
    refine qi_iload_n hC 1 rfl rfl dX6_markOfLasting_11 ?_
    refine qi_goto (tgt := 22) hC (by decide) dX6_markOfLasting_12 ?_
    refine qi_sub hC [0] rfl ?_
    exact t_X6_markOfLasting_22 hC hQ hf hK
set_option maxRecDepth 100000 in
set_option maxHeartbeats 4000000 in
theorem c_X6_thinksByRules (l : Launch) (Y : qaY) (m : qaM) (v1 : Int32) (v2 : Int32) (q : qaM) (hf : f_X6_thinksByRules m v1 v2 = some q) : qaMv l Y yX6_thinksByRules cX6_thinksByRules 3 6 [.ref (Y.2.2.1 0), .int v1, .int v2] m q := by
  refine qa_entv (by decide +kernel) (Nat.le_of_ble_eq_true rfl) fun X hC hQ => ?_
  have hK : qa_eq q q := rfl
  unfold f_X6_thinksByRules at hf
  refine qi_aload_n hC 0 rfl rfl dX6_thinksByRules_0 ?_
  refine qi_getr hC kf_X6_35 sh_0 rfl dX6_thinksByRules_1 ?_
  refine qi_aload_n hC 0 rfl rfl dX6_thinksByRules_4 ?_
  refine qi_getr hC kf_X6_28 sh_0 rfl dX6_thinksByRules_5 ?_
  obtain ⟨q1, hq1, hf⟩ := Option.bind_eq_some_iff.mp hf
  refine qi_callVv hC (as := [.ref (Y.2.2.1 8)]) (c_X0_beginsAs _ _ hou_20 hou_8 _ _ hq1) kl_X6_188 sh_20 kc_X0_beginsAs rfl rfl (by decide) (by decide) (Nat.le_of_ble_eq_true rfl) dX6_thinksByRules_8 ?_
  refine qi_aload_n hC 0 rfl rfl dX6_thinksByRules_11 ?_
  refine qi_getr hC kf_X6_35 sh_0 rfl dX6_thinksByRules_12 ?_
  refine qi_getr hC kf_X6_71 sh_20 rfl dX6_thinksByRules_15 ?_
  refine qi_iconst hC dX6_thinksByRules_18 kn_iconst_2 ?_
  refine qi_iload_n hC 1 rfl rfl dX6_thinksByRules_19 ?_
  refine qi_iconst hC dX6_thinksByRules_20 kn_iconst_3 ?_
  refine qi_idiv hC (by decide) dX6_thinksByRules_21 ?_
  obtain ⟨m2, em2, hf⟩ := qa_lt_e hf
  refine qi_iast hC tn_2 em2 sh_25 vi_2_4 dX6_thinksByRules_22 ?_
  refine qi_aload_n hC 0 rfl rfl dX6_thinksByRules_23 ?_
  refine qi_getr hC kf_X6_35 sh_0 rfl dX6_thinksByRules_24 ?_
  refine qi_getr hC kf_X6_71 sh_20 rfl dX6_thinksByRules_27 ?_
  refine qi_iconst hC dX6_thinksByRules_30 kn_iconst_3 ?_
  refine qi_iload_n hC 1 rfl rfl dX6_thinksByRules_31 ?_
  refine qi_iconst hC dX6_thinksByRules_32 kn_iconst_3 ?_
  refine qi_irem hC (by decide) dX6_thinksByRules_33 ?_
  obtain ⟨m3, em3, hf⟩ := qa_lt_e hf
  refine qi_iast hC tn_3 em3 sh_25 vi_3_4 dX6_thinksByRules_34 ?_
  refine qi_aload_n hC 0 rfl rfl dX6_thinksByRules_35 ?_
  refine qi_getr hC kf_X6_35 sh_0 rfl dX6_thinksByRules_36 ?_
  refine qi_iload_n hC 2 rfl rfl dX6_thinksByRules_39 ?_
  obtain ⟨q4, hq4, hf⟩ := Option.bind_eq_some_iff.mp hf
  refine qi_callVv hC (as := [.int v2]) (c_X0_livesWeeks _ _ hou_20 _ _ _ hq4) kl_X6_192 sh_20 kc_X0_livesWeeks rfl rfl (by decide) (by decide) (Nat.le_of_ble_eq_true rfl) dX6_thinksByRules_40 ?_
  obtain rfl := Option.some.inj hf
  exact qi_vret hC hQ hK dX6_thinksByRules_43
set_option maxRecDepth 100000 in
set_option maxHeartbeats 4000000 in
theorem t_X6_rules_88 {X : qaX} {l : Launch} {Y : qaY} {fin : Int32 × qaM} (hC : QC X l Y cX6_rules RX6 7 7) (hQ : QRi X Y (some .int) fin.2 fin.1) {m : qaM} {v3 : Int32} {z : (Int32 × qaM)} (hf : b_X6_rules_88 m v3 = some z) (hK : (qa_eq fin) z) : QG X Y 7 m 88 [(3, .int v3)] [] := by
  unfold b_X6_rules_88 at hf
  refine qi_iload_n hC 0 rfl rfl dX6_rules_88 ?_
  refine qi_iconst hC dX6_rules_89 kn_iconst_3 ?_
  refine qi_idiv hC (by decide) dX6_rules_90 ?_
  refine qi_bipush hC dX6_rules_91 kn_bipush_10 ?_
  refine qi_imul hC dX6_rules_93 ?_
  refine qi_iload_n hC 0 rfl rfl dX6_rules_94 ?_
  refine qi_iconst hC dX6_rules_95 kn_iconst_3 ?_
  refine qi_irem hC (by decide) dX6_rules_96 ?_
  refine qi_iadd hC dX6_rules_97 ?_
  obtain rfl := Option.some.inj hf
  exact qi_ireti hC hQ hK dX6_rules_98
set_option maxRecDepth 100000 in
set_option maxHeartbeats 4000000 in
theorem t_X6_rules_82 {X : qaX} {l : Launch} {Y : qaY} {fin : Int32 × qaM} (hC : QC X l Y cX6_rules RX6 7 7) (hQ : QRi X Y (some .int) fin.2 fin.1) {m : qaM} {v1 : Int32} {v2 : Int32} {v3 : Int32} {v4 : Int32} {v5 : Int32} {z : ((qaM × Int32 × Int32 × Int32) ⊕ (Int32 × qaM))} (hf : b_X6_rules_82 m v1 v2 v3 v4 v5 = some z) (hK : (qa_K (fun s => QG X Y 7 s.1 27 [(0, .ref (Y.2.2.1 0)), (1, .int v1), (2, .int v2), (3, .int s.2.1), (4, .int s.2.2.1), (5, .int s.2.2.2)] []) (qa_eq fin)) z) : QG X Y 7 m 82 [(0, .ref (Y.2.2.1 0)), (1, .int v1), (2, .int v2), (3, .int v3), (4, .int v4), (5, .int v5)] [] := by
  unfold b_X6_rules_82 at hf
  obtain ⟨x3, ex3, hf⟩ := qa_lt_e hf
  refine qi_iinc hC (n := 1) (v := x3) 5 rfl ((congrArg (fun q => v5 + q) kn_iconst_1).trans ex3.symm) (by decide) rfl dX6_rules_82 ?_
  refine qi_goto (tgt := 27) hC (by decide) dX6_rules_85 ?_
  obtain rfl := Option.some.inj hf
  refine qi_sub hC [1, 2, 3, 4, 5, 0] rfl ?_
  exact hK
set_option maxRecDepth 100000 in
set_option maxHeartbeats 4000000 in
theorem t_X6_rules_75 {X : qaX} {l : Launch} {Y : qaY} {fin : Int32 × qaM} (hC : QC X l Y cX6_rules RX6 7 7) (hQ : QRi X Y (some .int) fin.2 fin.1) {m : qaM} {v1 : Int32} {v2 : Int32} {v5 : Int32} {v6 : Int32} {z : ((qaM × Int32 × Int32 × Int32) ⊕ (Int32 × qaM))} (hf : b_X6_rules_75 m v1 v2 v5 v6 = some z) (hK : (qa_K (fun s => QG X Y 7 s.1 27 [(0, .ref (Y.2.2.1 0)), (1, .int v1), (2, .int v2), (3, .int s.2.1), (4, .int s.2.2.1), (5, .int s.2.2.2)] []) (qa_eq fin)) z) : QG X Y 7 m 75 [(0, .ref (Y.2.2.1 0)), (1, .int v1), (2, .int v2), (5, .int v5), (6, .int v6)] [] := by
  unfold b_X6_rules_75 at hf
  refine qi_iload hC 3 rfl dX6_rules_75 ?_
  refine qi_istore_n hC rfl (by decide) rfl dX6_rules_77 ?_
  refine qi_iload hC 5 rfl dX6_rules_78 ?_
  refine qi_istore hC (by decide) rfl dX6_rules_80 ?_
  refine qi_sub hC [2, 3, 4, 1, 0, 5] rfl ?_
  exact t_X6_rules_82 hC hQ hf hK
set_option maxRecDepth 100000 in
set_option maxHeartbeats 4000000 in
theorem t_X6_rules_61 {X : qaX} {l : Launch} {Y : qaY} {fin : Int32 × qaM} (hC : QC X l Y cX6_rules RX6 7 7) (hQ : QRi X Y (some .int) fin.2 fin.1) {m : qaM} {v1 : Int32} {v2 : Int32} {v3 : Int32} {v4 : Int32} {v5 : Int32} {s0 : Int32} {z : ((qaM × Int32 × Int32 × Int32) ⊕ (Int32 × qaM))} (hf : b_X6_rules_61 m v1 v2 v3 v4 v5 s0 = some z) (hK : (qa_K (fun s => QG X Y 7 s.1 27 [(0, .ref (Y.2.2.1 0)), (1, .int v1), (2, .int v2), (3, .int s.2.1), (4, .int s.2.2.1), (5, .int s.2.2.2)] []) (qa_eq fin)) z) : QG X Y 7 m 61 [(0, .ref (Y.2.2.1 0)), (1, .int v1), (2, .int v2), (3, .int v3), (4, .int v4), (5, .int v5)] [.int s0] := by
  unfold b_X6_rules_61 at hf
  refine qi_istore hC (by decide) rfl dX6_rules_61 ?_
  refine qi_iload_n hC 4 rfl rfl dX6_rules_63 ?_
  refine qi_iconst hC dX6_rules_64 kn_iconst_m1 ?_
  refine qi_icmp_eq (tgt := 75) hC (by decide) dX6_rules_65 (fun h => ?_) (fun h => ?_)
  · replace hf := qa_if_t h hf
    refine qi_sub hC [1, 2, 3, 6, 0] rfl ?_
    exact t_X6_rules_75 hC hQ hf hK
  · replace hf := qa_if_f h hf
    refine qi_iload hC 0 rfl dX6_rules_68 ?_
    refine qi_iload hC 5 rfl dX6_rules_70 ?_
    refine qi_icmp_le (tgt := 82) hC (by decide) dX6_rules_72 (fun h => ?_) (fun h => ?_)
    · replace hf := qa_if_t h hf
      refine qi_sub hC [1, 2, 3, 4, 5, 6] rfl ?_
      exact t_X6_rules_82 hC hQ hf hK
    · replace hf := qa_if_f h hf
      refine qi_sub hC [1, 2, 3, 6, 0] rfl ?_
      exact t_X6_rules_75 hC hQ hf hK
set_option maxRecDepth 100000 in
set_option maxHeartbeats 4000000 in
theorem t_X6_rules_27 {X : qaX} {l : Launch} {Y : qaY} {fin : Int32 × qaM} (hC : QC X l Y cX6_rules RX6 7 7) (hQ : QRi X Y (some .int) fin.2 fin.1) {m : qaM} {v1 : Int32} {v2 : Int32} {v3 : Int32} {v4 : Int32} {v5 : Int32} {z : ((qaM × Int32 × Int32 × Int32) ⊕ (Int32 × qaM))} (hf : b_X6_rules_27 m v1 v2 v3 v4 v5 = some z) (hK : (qa_K (fun s => QG X Y 7 s.1 27 [(0, .ref (Y.2.2.1 0)), (1, .int v1), (2, .int v2), (3, .int s.2.1), (4, .int s.2.2.1), (5, .int s.2.2.2)] []) (qa_eq fin)) z) : QG X Y 7 m 27 [(0, .ref (Y.2.2.1 0)), (1, .int v1), (2, .int v2), (3, .int v3), (4, .int v4), (5, .int v5)] [] := by
  unfold b_X6_rules_27 at hf
  refine qi_iload hC 5 rfl dX6_rules_27 ?_
  refine qi_bipush hC dX6_rules_29 kn_bipush_12 ?_
  refine qi_icmp_ge (tgt := 88) hC (by decide) dX6_rules_31 (fun h => ?_) (fun h => ?_)
  · replace hf := qa_if_t h hf
    obtain ⟨z, rfl, hg⟩ := qa_inr_e hf; have hf := hg
    refine qi_sub hC [3] rfl ?_
    exact t_X6_rules_88 hC hQ hf hK
  · replace hf := qa_if_f h hf
    refine qi_aload_n hC 0 rfl rfl dX6_rules_34 ?_
    refine qi_iload hC 5 rfl dX6_rules_35 ?_
    refine qi_iload_n hC 1 rfl rfl dX6_rules_37 ?_
    obtain ⟨q2, hq2, hf⟩ := Option.bind_eq_some_iff.mp hf
    refine qi_callVv hC (as := [.int v5, .int v1]) (c_X6_thinksByRules _ _ _ _ _ _ hq2) kl_X6_182 sh_0 kc_X6_thinksByRules rfl rfl (by decide) (by decide) (Nat.le_of_ble_eq_true rfl) dX6_rules_38 ?_
    refine qi_iload_n hC 2 rfl rfl dX6_rules_41 ?_
    refine qi_if_ne (tgt := 53) hC (by decide) dX6_rules_42 (fun h => ?_) (fun h => ?_)
    · replace hf := qa_if_f h hf
      refine qi_aload_n hC 0 rfl rfl dX6_rules_53 ?_
      refine qi_getr hC kf_X6_35 sh_0 rfl dX6_rules_54 ?_
      refine qi_geti hC kf_X6_173 sh_20 rfl dX6_rules_57 ?_
      refine qi_ineg hC dX6_rules_60 ?_
      exact t_X6_rules_61 hC hQ hf hK
    · replace hf := qa_if_t h hf
      refine qi_aload_n hC 0 rfl rfl dX6_rules_45 ?_
      refine qi_iload_n hC 1 rfl rfl dX6_rules_46 ?_
      obtain ⟨q4, hq4, hf⟩ := Option.bind_eq_some_iff.mp hf
      refine qi_callVi hC (as := [.int v1]) (c_X6_markOfLasting _ _ _ _ _ hq4) kl_X6_185 sh_0 kc_X6_markOfLasting rfl rfl (by decide) (by decide) (Nat.le_of_ble_eq_true rfl) dX6_rules_47 ?_
      refine qi_goto (tgt := 61) hC (by decide) dX6_rules_50 ?_
      exact t_X6_rules_61 hC hQ hf hK
set_option maxRecDepth 100000 in
set_option maxHeartbeats 4000000 in
theorem tn_X6_rules_27 {X : qaX} {l : Launch} {Y : qaY} {fin : Int32 × qaM} (hC : QC X l Y cX6_rules RX6 7 7) (hQ : QRi X Y (some .int) fin.2 fin.1) {v1 : Int32} {v2 : Int32} {z : (Int32 × qaM)} (hK : (qa_eq fin) z) : ∀ (n : Nat) (s : qaM × Int32 × Int32 × Int32), qa_lp (fun s => b_X6_rules_27 s.1 v1 v2 s.2.1 s.2.2.1 s.2.2.2) n s = some z → QG X Y 7 s.1 27 [(0, .ref (Y.2.2.1 0)), (1, .int v1), (2, .int v2), (3, .int s.2.1), (4, .int s.2.2.1), (5, .int s.2.2.2)] [] := by
  intro n
  induction n with
  | zero => intro s hf; cases hf
  | succ n ih =>
    intro s hf
    obtain ⟨y, hy, hf⟩ := qa_lp_e hf
    refine t_X6_rules_27 hC hQ hy ?_
    rcases hf with ⟨s', rfl, hf⟩ | rfl
    · exact ih s' hf
    · exact hK
set_option maxRecDepth 100000 in
set_option maxHeartbeats 4000000 in
theorem tl_X6_rules_27 {X : qaX} {l : Launch} {Y : qaY} {fin : Int32 × qaM} (hC : QC X l Y cX6_rules RX6 7 7) (hQ : QRi X Y (some .int) fin.2 fin.1) {m : qaM} {v1 : Int32} {v2 : Int32} {v3 : Int32} {v4 : Int32} {v5 : Int32} {z : (Int32 × qaM)} (hf : lp_X6_rules_27 m v1 v2 v3 v4 v5 = some z) (hK : (qa_eq fin) z) : QG X Y 7 m 27 [(0, .ref (Y.2.2.1 0)), (1, .int v1), (2, .int v2), (3, .int v3), (4, .int v4), (5, .int v5)] [] :=
  tn_X6_rules_27 hC hQ hK qa_F (m, v3, v4, v5) hf
set_option maxRecDepth 100000 in
set_option maxHeartbeats 4000000 in
theorem c_X6_rules (l : Launch) (Y : qaY) (m : qaM) (v1 : Int32) (v2 : Int32) (q : Int32 × qaM) (hf : f_X6_rules m v1 v2 = some q) : qaMi l Y yX6_rules cX6_rules 7 (some .int) 7 [.ref (Y.2.2.1 0), .int v1, .int v2] m q.2 q.1 := by
  refine qa_enti (by decide +kernel) (Nat.le_of_ble_eq_true rfl) fun X hC hQ => ?_
  have hK : qa_eq q q := rfl
  unfold f_X6_rules at hf
  refine qi_iload_n hC 1 rfl rfl dX6_rules_0 ?_
  obtain ⟨q1, hq1, hf⟩ := Option.bind_eq_some_iff.mp hf
  refine qi_callSi hC (as := [.int v1]) (c_X6_isWeeks _ _ _ _ _ hq1) kl_X6_161 kc_X6_isWeeks rfl rfl (by decide) (by decide) (Nat.le_of_ble_eq_true rfl) dX6_rules_1 ?_
  refine qi_if_eq (tgt := 16) hC (by decide) dX6_rules_4 (fun h => ?_) (fun h => ?_)
  · replace hf := qa_if_t h hf
    refine qi_bipush hC dX6_rules_16 kn_bipush_m2 ?_
    obtain rfl := Option.some.inj hf
    exact qi_ireti hC hQ hK dX6_rules_18
  · replace hf := qa_if_f h hf
    refine qi_iload_n hC 2 rfl rfl dX6_rules_7 ?_
    refine qi_if_lt (tgt := 16) hC (by decide) dX6_rules_8 (fun h => ?_) (fun h => ?_)
    · replace hf := qa_if_t h hf
      refine qi_bipush hC dX6_rules_16 kn_bipush_m2 ?_
      obtain rfl := Option.some.inj hf
      exact qi_ireti hC hQ hK dX6_rules_18
    · replace hf := qa_if_f h hf
      refine qi_iload_n hC 2 rfl rfl dX6_rules_11 ?_
      refine qi_iconst hC dX6_rules_12 kn_iconst_1 ?_
      refine qi_icmp_le (tgt := 19) hC (by decide) dX6_rules_13 (fun h => ?_) (fun h => ?_)
      · replace hf := qa_if_t h hf
        refine qi_iconst hC dX6_rules_19 kn_iconst_m1 ?_
        refine qi_istore_n hC rfl (by decide) rfl dX6_rules_20 ?_
        refine qi_iconst hC dX6_rules_21 kn_iconst_0 ?_
        refine qi_istore hC (by decide) rfl dX6_rules_22 ?_
        refine qi_iconst hC dX6_rules_24 kn_iconst_0 ?_
        refine qi_istore hC (by decide) rfl dX6_rules_25 ?_
        refine qi_sub hC [3, 4, 5, 2, 1, 0] rfl ?_
        exact tl_X6_rules_27 hC hQ hf hK
      · replace hf := qa_if_f h hf
        refine qi_bipush hC dX6_rules_16 kn_bipush_m2 ?_
        obtain rfl := Option.some.inj hf
        exact qi_ireti hC hQ hK dX6_rules_18
set_option maxRecDepth 100000 in
set_option maxHeartbeats 4000000 in
theorem t_X6_which_114 {X : qaX} {l : Launch} {Y : qaY} {fin : Int32 × qaM} (hC : QC X l Y cX6_which RX6 5 7) (hQ : QRi X Y (some .int) fin.2 fin.1) {m : qaM} {v1 : Int32} {v2 : Int32} {v3 : Int32} {v4 : Int32} {z : ((qaM × Int32 × Int32 × Int32) ⊕ (Int32 × qaM))} (hf : b_X6_which_114 m v1 v2 v3 v4 = some z) (hK : (qa_K (fun s => QG X Y 5 s.1 31 [(0, .ref (Y.2.2.1 0)), (1, .int v1), (2, .int s.2.1), (3, .int s.2.2.1), (4, .int s.2.2.2)] []) (qa_eq fin)) z) : QG X Y 5 m 114 [(0, .ref (Y.2.2.1 0)), (1, .int v1), (2, .int v2), (3, .int v3), (4, .int v4)] [] := by
  unfold b_X6_which_114 at hf
  obtain ⟨x5, ex5, hf⟩ := qa_lt_e hf
  refine qi_iinc hC (n := 1) (v := x5) 4 rfl ((congrArg (fun q => v4 + q) kn_iconst_1).trans ex5.symm) (by decide) rfl dX6_which_114 ?_
  refine qi_goto (tgt := 31) hC (by decide) dX6_which_117 ?_
  obtain rfl := Option.some.inj hf
  refine qi_sub hC [1, 2, 3, 4, 0] rfl ?_
  exact hK
set_option maxRecDepth 100000 in
set_option maxHeartbeats 4000000 in
theorem t_X6_which_31 {X : qaX} {l : Launch} {Y : qaY} {fin : Int32 × qaM} (hC : QC X l Y cX6_which RX6 5 7) (hQ : QRi X Y (some .int) fin.2 fin.1) {m : qaM} {v1 : Int32} {v2 : Int32} {v3 : Int32} {v4 : Int32} {z : ((qaM × Int32 × Int32 × Int32) ⊕ (Int32 × qaM))} (hf : b_X6_which_31 m v1 v2 v3 v4 = some z) (hK : (qa_K (fun s => QG X Y 5 s.1 31 [(0, .ref (Y.2.2.1 0)), (1, .int v1), (2, .int s.2.1), (3, .int s.2.2.1), (4, .int s.2.2.2)] []) (qa_eq fin)) z) : QG X Y 5 m 31 [(0, .ref (Y.2.2.1 0)), (1, .int v1), (2, .int v2), (3, .int v3), (4, .int v4)] [] := by
  unfold b_X6_which_31 at hf
  refine qi_iload hC 4 rfl dX6_which_31 ?_
  refine qi_aload_n hC 0 rfl rfl dX6_which_33 ?_
  refine qi_getr hC kf_X6_28 sh_0 rfl dX6_which_34 ?_
  refine qi_getr hC kf_X6_52 sh_8 rfl dX6_which_37 ?_
  refine qi_geti hC kf_X6_56 sh_9 rfl dX6_which_40 ?_
  refine qi_icmp_ge (tgt := 120) hC (by decide) dX6_which_43 (fun h => ?_) (fun h => ?_)
  · replace hf := qa_if_t h hf
    refine qi_iload_n hC 3 rfl rfl dX6_which_120 ?_
    obtain ⟨z, rfl, hg⟩ := qa_inr_e hf; have hf := hg
    obtain rfl := Option.some.inj hf
    exact qi_ireti hC hQ hK dX6_which_121
  · replace hf := qa_if_f h hf
    refine qi_aload_n hC 0 rfl rfl dX6_which_46 ?_
    refine qi_getr hC kf_X6_28 sh_0 rfl dX6_which_47 ?_
    refine qi_iload hC 4 rfl dX6_which_50 ?_
    obtain ⟨q4, hq4, hf⟩ := Option.bind_eq_some_iff.mp hf
    refine qi_callVi hC (as := [.int v4]) (c_X0_canTurn _ _ hou_8 _ _ _ hq4) kl_X6_143 sh_8 kc_X0_canTurn rfl rfl (by decide) (by decide) (Nat.le_of_ble_eq_true rfl) dX6_which_52 ?_
    refine qi_if_eq (tgt := 114) hC (by decide) dX6_which_55 (fun h => ?_) (fun h => ?_)
    · replace hf := qa_if_t h hf
      exact t_X6_which_114 hC hQ hf hK
    · replace hf := qa_if_f h hf
      refine qi_aload_n hC 0 rfl rfl dX6_which_58 ?_
      refine qi_getr hC kf_X6_35 sh_0 rfl dX6_which_59 ?_
      refine qi_aload_n hC 0 rfl rfl dX6_which_62 ?_
      refine qi_getr hC kf_X6_28 sh_0 rfl dX6_which_63 ?_
      obtain ⟨q6, hq6, hf⟩ := Option.bind_eq_some_iff.mp hf
      refine qi_callVv hC (as := [.ref (Y.2.2.1 8)]) (c_X0_beginsAs _ _ hou_20 hou_8 _ _ hq6) kl_X6_188 sh_20 kc_X0_beginsAs rfl rfl (by decide) (by decide) (Nat.le_of_ble_eq_true rfl) dX6_which_66 ?_
      refine qi_aload_n hC 0 rfl rfl dX6_which_69 ?_
      refine qi_getr hC kf_X6_35 sh_0 rfl dX6_which_70 ?_
      refine qi_iload hC 4 rfl dX6_which_73 ?_
      obtain ⟨q7, hq7, hf⟩ := Option.bind_eq_some_iff.mp hf
      refine qi_callVv hC (as := [.int v4]) (c_X0_turnsOver _ _ hou_20 _ _ _ hq7) kl_X6_146 sh_20 kc_X0_turnsOver rfl rfl (by decide) (by decide) (Nat.le_of_ble_eq_true rfl) dX6_which_75 ?_
      refine qi_aload_n hC 0 rfl rfl dX6_which_78 ?_
      refine qi_getr hC kf_X6_35 sh_0 rfl dX6_which_79 ?_
      refine qi_iload_n hC 1 rfl rfl dX6_which_82 ?_
      obtain ⟨q8, hq8, hf⟩ := Option.bind_eq_some_iff.mp hf
      refine qi_callVv hC (as := [.int v1]) (c_X0_livesWeeks _ _ hou_20 _ _ _ hq8) kl_X6_192 sh_20 kc_X0_livesWeeks rfl rfl (by decide) (by decide) (Nat.le_of_ble_eq_true rfl) dX6_which_83 ?_
      refine qi_aload_n hC 0 rfl rfl dX6_which_86 ?_
      refine qi_getr hC kf_X6_35 sh_0 rfl dX6_which_87 ?_
      refine qi_getr hC kf_X6_52 sh_20 rfl dX6_which_90 ?_
      obtain ⟨q9, hq9, hf⟩ := Option.bind_eq_some_iff.mp hf
      refine qi_callVi hC (as := []) (c_X1_left _ _ hou_20.2.1 _ _ hq9) kl_X6_167 sh_21 kc_X1_left rfl rfl (by decide) (by decide) (Nat.le_of_ble_eq_true rfl) dX6_which_93 ?_
      refine qi_iload_n hC 2 rfl rfl dX6_which_96 ?_
      refine qi_icmp_le (tgt := 114) hC (by decide) dX6_which_97 (fun h => ?_) (fun h => ?_)
      · replace hf := qa_if_t h hf
        exact t_X6_which_114 hC hQ hf hK
      · replace hf := qa_if_f h hf
        refine qi_aload_n hC 0 rfl rfl dX6_which_100 ?_
        refine qi_getr hC kf_X6_35 sh_0 rfl dX6_which_101 ?_
        refine qi_getr hC kf_X6_52 sh_20 rfl dX6_which_104 ?_
        obtain ⟨q10, hq10, hf⟩ := Option.bind_eq_some_iff.mp hf
        refine qi_callVi hC (as := []) (c_X1_left _ _ hou_20.2.1 _ _ hq10) kl_X6_167 sh_21 kc_X1_left rfl rfl (by decide) (by decide) (Nat.le_of_ble_eq_true rfl) dX6_which_107 ?_
        refine qi_istore_n hC rfl (by decide) rfl dX6_which_110 ?_
        refine qi_iload hC 4 rfl dX6_which_111 ?_
        refine qi_istore_n hC rfl (by decide) rfl dX6_which_113 ?_
        refine qi_sub hC [2, 3, 1, 0, 4] rfl ?_
        exact t_X6_which_114 hC hQ hf hK
set_option maxRecDepth 100000 in
set_option maxHeartbeats 4000000 in
theorem tn_X6_which_31 {X : qaX} {l : Launch} {Y : qaY} {fin : Int32 × qaM} (hC : QC X l Y cX6_which RX6 5 7) (hQ : QRi X Y (some .int) fin.2 fin.1) {v1 : Int32} {z : (Int32 × qaM)} (hK : (qa_eq fin) z) : ∀ (n : Nat) (s : qaM × Int32 × Int32 × Int32), qa_lp (fun s => b_X6_which_31 s.1 v1 s.2.1 s.2.2.1 s.2.2.2) n s = some z → QG X Y 5 s.1 31 [(0, .ref (Y.2.2.1 0)), (1, .int v1), (2, .int s.2.1), (3, .int s.2.2.1), (4, .int s.2.2.2)] [] := by
  intro n
  induction n with
  | zero => intro s hf; cases hf
  | succ n ih =>
    intro s hf
    obtain ⟨y, hy, hf⟩ := qa_lp_e hf
    refine t_X6_which_31 hC hQ hy ?_
    rcases hf with ⟨s', rfl, hf⟩ | rfl
    · exact ih s' hf
    · exact hK
set_option maxRecDepth 100000 in
set_option maxHeartbeats 4000000 in
theorem tl_X6_which_31 {X : qaX} {l : Launch} {Y : qaY} {fin : Int32 × qaM} (hC : QC X l Y cX6_which RX6 5 7) (hQ : QRi X Y (some .int) fin.2 fin.1) {m : qaM} {v1 : Int32} {v2 : Int32} {v3 : Int32} {v4 : Int32} {z : (Int32 × qaM)} (hf : lp_X6_which_31 m v1 v2 v3 v4 = some z) (hK : (qa_eq fin) z) : QG X Y 5 m 31 [(0, .ref (Y.2.2.1 0)), (1, .int v1), (2, .int v2), (3, .int v3), (4, .int v4)] [] :=
  tn_X6_which_31 hC hQ hK qa_F (m, v2, v3, v4) hf
set_option maxRecDepth 100000 in
set_option maxHeartbeats 4000000 in
theorem c_X6_which (l : Launch) (Y : qaY) (m : qaM) (v1 : Int32) (q : Int32 × qaM) (hf : f_X6_which m v1 = some q) : qaMi l Y yX6_which cX6_which 5 (some .int) 7 [.ref (Y.2.2.1 0), .int v1] m q.2 q.1 := by
  refine qa_enti (by decide +kernel) (Nat.le_of_ble_eq_true rfl) fun X hC hQ => ?_
  have hK : qa_eq q q := rfl
  unfold f_X6_which at hf
  refine qi_iload_n hC 1 rfl rfl dX6_which_0 ?_
  obtain ⟨q1, hq1, hf⟩ := Option.bind_eq_some_iff.mp hf
  refine qi_callSi hC (as := [.int v1]) (c_X6_isWeeks _ _ _ _ _ hq1) kl_X6_161 kc_X6_isWeeks rfl rfl (by decide) (by decide) (Nat.le_of_ble_eq_true rfl) dX6_which_1 ?_
  refine qi_if_ne (tgt := 10) hC (by decide) dX6_which_4 (fun h => ?_) (fun h => ?_)
  · replace hf := qa_if_f h hf
    refine qi_aload_n hC 0 rfl rfl dX6_which_10 ?_
    refine qi_iload_n hC 1 rfl rfl dX6_which_11 ?_
    obtain ⟨q2, hq2, hf⟩ := Option.bind_eq_some_iff.mp hf
    refine qi_callVv hC (as := [.int v1]) (c_X6_thinks _ _ _ _ _ hq2) kl_X6_164 sh_0 kc_X6_thinks rfl rfl (by decide) (by decide) (Nat.le_of_ble_eq_true rfl) dX6_which_12 ?_
    refine qi_aload_n hC 0 rfl rfl dX6_which_15 ?_
    refine qi_getr hC kf_X6_35 sh_0 rfl dX6_which_16 ?_
    refine qi_getr hC kf_X6_52 sh_20 rfl dX6_which_19 ?_
    obtain ⟨q3, hq3, hf⟩ := Option.bind_eq_some_iff.mp hf
    refine qi_callVi hC (as := []) (c_X1_left _ _ hou_20.2.1 _ _ hq3) kl_X6_167 sh_21 kc_X1_left rfl rfl (by decide) (by decide) (Nat.le_of_ble_eq_true rfl) dX6_which_22 ?_
    refine qi_istore_n hC rfl (by decide) rfl dX6_which_25 ?_
    refine qi_iconst hC dX6_which_26 kn_iconst_m1 ?_
    refine qi_istore_n hC rfl (by decide) rfl dX6_which_27 ?_
    refine qi_iconst hC dX6_which_28 kn_iconst_0 ?_
    refine qi_istore hC (by decide) rfl dX6_which_29 ?_
    refine qi_sub hC [3, 4, 2, 1, 0] rfl ?_
    exact tl_X6_which_31 hC hQ hf hK
  · replace hf := qa_if_t h hf
    refine qi_bipush hC dX6_which_7 kn_bipush_m2 ?_
    obtain rfl := Option.some.inj hf
    exact qi_ireti hC hQ hK dX6_which_9
set_option maxRecDepth 100000 in
set_option maxHeartbeats 4000000 in
theorem t_X6_when_136 {X : qaX} {l : Launch} {Y : qaY} {fin : Int32 × qaM} (hC : QC X l Y cX6_when RX6 8 6) (hQ : QRi X Y (some .int) fin.2 fin.1) {m : qaM} {v1 : Int32} {v2 : Int32} {v3 : Int32} {v4 : Int32} {v5 : Int32} {z : (Int32 × qaM)} (hf : b_X6_when_136 m v1 v2 v3 v4 v5 = some z) (hK : (qa_eq fin) z) : QG X Y 8 m 136 [(0, .ref (Y.2.2.1 0)), (1, .int v1), (2, .int v2), (3, .int v3), (4, .int v4), (5, .int v5)] [] := by
  unfold b_X6_when_136 at hf
  refine qi_iload_n hC 3 rfl rfl dX6_when_136 ?_
  refine qi_if_ne (tgt := 143) hC (by decide) dX6_when_137 (fun h => ?_) (fun h => ?_)
  · replace hf := qa_if_f h hf
    refine qi_iload hC 4 rfl dX6_when_143 ?_
    refine qi_iconst hC dX6_when_145 kn_iconst_m1 ?_
    refine qi_icmp_eq (tgt := 152) hC (by decide) dX6_when_146 (fun h => ?_) (fun h => ?_)
    · replace hf := qa_if_t h hf
      refine qi_aload_n hC 0 rfl rfl dX6_when_152 ?_
      refine qi_getr hC kf_X6_35 sh_0 rfl dX6_when_153 ?_
      refine qi_aload_n hC 0 rfl rfl dX6_when_156 ?_
      refine qi_getr hC kf_X6_28 sh_0 rfl dX6_when_157 ?_
      obtain ⟨q3, hq3, hf⟩ := Option.bind_eq_some_iff.mp hf
      refine qi_callVv hC (as := [.ref (Y.2.2.1 8)]) (c_X0_beginsAs _ _ hou_20 hou_8 _ _ hq3) kl_X6_188 sh_20 kc_X0_beginsAs rfl rfl (by decide) (by decide) (Nat.le_of_ble_eq_true rfl) dX6_when_160 ?_
      refine qi_aload_n hC 0 rfl rfl dX6_when_163 ?_
      refine qi_getr hC kf_X6_35 sh_0 rfl dX6_when_164 ?_
      refine qi_iload_n hC 1 rfl rfl dX6_when_167 ?_
      refine qi_iload_n hC 2 rfl rfl dX6_when_168 ?_
      obtain ⟨q4, hq4, hf⟩ := Option.bind_eq_some_iff.mp hf
      refine qi_callVi hC (as := [.int v1, .int v2]) (c_X0_weekOfCloths _ _ hou_20 _ _ _ _ hq4) kl_X6_195 sh_20 kc_X0_weekOfCloths rfl rfl (by decide) (by decide) (Nat.le_of_ble_eq_true rfl) dX6_when_169 ?_
      obtain rfl := Option.some.inj hf
      exact qi_ireti hC hQ hK dX6_when_172
    · replace hf := qa_if_f h hf
      refine qi_iload hC 5 rfl dX6_when_149 ?_
      obtain rfl := Option.some.inj hf
      exact qi_ireti hC hQ hK dX6_when_151
  · replace hf := qa_if_t h hf
    refine qi_iload hC 4 rfl dX6_when_140 ?_
    obtain rfl := Option.some.inj hf
    exact qi_ireti hC hQ hK dX6_when_142
set_option maxRecDepth 100000 in
set_option maxHeartbeats 4000000 in
theorem t_X6_when_122 {X : qaX} {l : Launch} {Y : qaY} {fin : Int32 × qaM} (hC : QC X l Y cX6_when RX6 8 6) (hQ : QRi X Y (some .int) fin.2 fin.1) {m : qaM} {v1 : Int32} {v2 : Int32} {v3 : Int32} {v4 : Int32} {v5 : Int32} {v6 : Int32} {z : ((qaM × Int32 × Int32 × Int32) ⊕ (Int32 × qaM))} (hf : b_X6_when_122 m v1 v2 v3 v4 v5 v6 = some z) (hK : (qa_K (fun s => QG X Y 8 s.1 54 [(0, .ref (Y.2.2.1 0)), (1, .int v1), (2, .int v2), (3, .int v3), (4, .int s.2.1), (5, .int s.2.2.1), (6, .int s.2.2.2)] []) (qa_eq fin)) z) : QG X Y 8 m 122 [(0, .ref (Y.2.2.1 0)), (1, .int v1), (2, .int v2), (3, .int v3), (4, .int v4), (5, .int v5), (6, .int v6)] [] := by
  unfold b_X6_when_122 at hf
  refine qi_aload_n hC 0 rfl rfl dX6_when_122 ?_
  refine qi_getr hC kf_X6_35 sh_0 rfl dX6_when_123 ?_
  refine qi_iconst hC dX6_when_126 kn_iconst_1 ?_
  obtain ⟨q6, hq6, hf⟩ := Option.bind_eq_some_iff.mp hf
  refine qi_callVv hC (as := [.int (1 : Int32)]) (c_X0_livesWeeks _ _ hou_20 _ _ _ hq6) kl_X6_192 sh_20 kc_X0_livesWeeks rfl rfl (by decide) (by decide) (Nat.le_of_ble_eq_true rfl) dX6_when_127 ?_
  obtain ⟨x7, ex7, hf⟩ := qa_lt_e hf
  refine qi_iinc hC (n := 1) (v := x7) 6 rfl ((congrArg (fun q => v6 + q) kn_iconst_1).trans ex7.symm) (by decide) rfl dX6_when_130 ?_
  refine qi_goto (tgt := 54) hC (by decide) dX6_when_133 ?_
  obtain rfl := Option.some.inj hf
  refine qi_sub hC [1, 2, 3, 4, 5, 6, 0] rfl ?_
  exact hK
set_option maxRecDepth 100000 in
set_option maxHeartbeats 4000000 in
theorem t_X6_when_54 {X : qaX} {l : Launch} {Y : qaY} {fin : Int32 × qaM} (hC : QC X l Y cX6_when RX6 8 6) (hQ : QRi X Y (some .int) fin.2 fin.1) {m : qaM} {v1 : Int32} {v2 : Int32} {v3 : Int32} {v4 : Int32} {v5 : Int32} {v6 : Int32} {z : ((qaM × Int32 × Int32 × Int32) ⊕ (Int32 × qaM))} (hf : b_X6_when_54 m v1 v2 v3 v4 v5 v6 = some z) (hK : (qa_K (fun s => QG X Y 8 s.1 54 [(0, .ref (Y.2.2.1 0)), (1, .int v1), (2, .int v2), (3, .int v3), (4, .int s.2.1), (5, .int s.2.2.1), (6, .int s.2.2.2)] []) (qa_eq fin)) z) : QG X Y 8 m 54 [(0, .ref (Y.2.2.1 0)), (1, .int v1), (2, .int v2), (3, .int v3), (4, .int v4), (5, .int v5), (6, .int v6)] [] := by
  unfold b_X6_when_54 at hf
  refine qi_iload hC 6 rfl dX6_when_54 ?_
  refine qi_iload_n hC 2 rfl rfl dX6_when_56 ?_
  refine qi_icmp_ge (tgt := 136) hC (by decide) dX6_when_57 (fun h => ?_) (fun h => ?_)
  · replace hf := qa_if_t h hf
    obtain ⟨z, rfl, hg⟩ := qa_inr_e hf; have hf := hg
    refine qi_sub hC [0, 1, 2, 3, 4, 5] rfl ?_
    exact t_X6_when_136 hC hQ hf hK
  · replace hf := qa_if_f h hf
    refine qi_aload_n hC 0 rfl rfl dX6_when_60 ?_
    refine qi_getr hC kf_X6_35 sh_0 rfl dX6_when_61 ?_
    refine qi_iload_n hC 1 rfl rfl dX6_when_64 ?_
    obtain ⟨q5, hq5, hf⟩ := Option.bind_eq_some_iff.mp hf
    refine qi_callVi hC (as := [.int v1]) (c_X0_canTurn _ _ hou_20 _ _ _ hq5) kl_X6_143 sh_20 kc_X0_canTurn rfl rfl (by decide) (by decide) (Nat.le_of_ble_eq_true rfl) dX6_when_65 ?_
    refine qi_if_eq (tgt := 122) hC (by decide) dX6_when_68 (fun h => ?_) (fun h => ?_)
    · replace hf := qa_if_t h hf
      exact t_X6_when_122 hC hQ hf hK
    · replace hf := qa_if_f h hf
      refine qi_aload_n hC 0 rfl rfl dX6_when_71 ?_
      refine qi_getr hC kf_X6_38 sh_0 rfl dX6_when_72 ?_
      refine qi_aload_n hC 0 rfl rfl dX6_when_75 ?_
      refine qi_getr hC kf_X6_35 sh_0 rfl dX6_when_76 ?_
      obtain ⟨q8, hq8, hf⟩ := Option.bind_eq_some_iff.mp hf
      refine qi_callVv hC (as := [.ref (Y.2.2.1 20)]) (c_X0_beginsAs _ _ hou_26 hou_20 _ _ hq8) kl_X6_188 sh_26 kc_X0_beginsAs rfl rfl (by decide) (by decide) (Nat.le_of_ble_eq_true rfl) dX6_when_79 ?_
      refine qi_aload_n hC 0 rfl rfl dX6_when_82 ?_
      refine qi_getr hC kf_X6_38 sh_0 rfl dX6_when_83 ?_
      refine qi_iload_n hC 1 rfl rfl dX6_when_86 ?_
      obtain ⟨q9, hq9, hf⟩ := Option.bind_eq_some_iff.mp hf
      refine qi_callVv hC (as := [.int v1]) (c_X0_turnsOver _ _ hou_26 _ _ _ hq9) kl_X6_146 sh_26 kc_X0_turnsOver rfl rfl (by decide) (by decide) (Nat.le_of_ble_eq_true rfl) dX6_when_87 ?_
      refine qi_iload hC 6 rfl dX6_when_90 ?_
      refine qi_aload_n hC 0 rfl rfl dX6_when_92 ?_
      refine qi_getr hC kf_X6_38 sh_0 rfl dX6_when_93 ?_
      refine qi_iload_n hC 1 rfl rfl dX6_when_96 ?_
      refine qi_iload_n hC 2 rfl rfl dX6_when_97 ?_
      refine qi_iload hC 6 rfl dX6_when_98 ?_
      refine qi_isub hC dX6_when_100 ?_
      obtain ⟨q10, hq10, hf⟩ := Option.bind_eq_some_iff.mp hf
      refine qi_callVi hC (as := [.int v1, .int (v2 - v6)]) (c_X0_weekOfCloths _ _ hou_26 _ _ _ _ hq10) kl_X6_195 sh_26 kc_X0_weekOfCloths rfl rfl (by decide) (by decide) (Nat.le_of_ble_eq_true rfl) dX6_when_101 ?_
      refine qi_iadd hC dX6_when_104 ?_
      obtain ⟨x11, ex11, hf⟩ := qa_lt_e hf
      refine qi_nmi hC ex11 ?_
      refine qi_istore hC (by decide) rfl dX6_when_105 ?_
      refine qi_iload hC 0 rfl dX6_when_107 ?_
      refine qi_iload hC 6 rfl dX6_when_109 ?_
      refine qi_icmp_le (tgt := 122) hC (by decide) dX6_when_111 (fun h => ?_) (fun h => ?_)
      · replace hf := qa_if_t h hf
        refine qi_sub hC [1, 2, 3, 4, 5, 6, 7] rfl ?_
        exact t_X6_when_122 hC hQ hf hK
      · replace hf := qa_if_f h hf
        refine qi_iload hC 0 rfl dX6_when_114 ?_
        refine qi_istore hC (by decide) rfl dX6_when_116 ?_
        refine qi_iload hC 7 rfl dX6_when_118 ?_
        refine qi_istore hC (by decide) rfl dX6_when_120 ?_
        refine qi_sub hC [3, 4, 5, 6, 0, 1, 7] rfl ?_
        exact t_X6_when_122 hC hQ hf hK
set_option maxRecDepth 100000 in
set_option maxHeartbeats 4000000 in
theorem tn_X6_when_54 {X : qaX} {l : Launch} {Y : qaY} {fin : Int32 × qaM} (hC : QC X l Y cX6_when RX6 8 6) (hQ : QRi X Y (some .int) fin.2 fin.1) {v1 : Int32} {v2 : Int32} {v3 : Int32} {z : (Int32 × qaM)} (hK : (qa_eq fin) z) : ∀ (n : Nat) (s : qaM × Int32 × Int32 × Int32), qa_lp (fun s => b_X6_when_54 s.1 v1 v2 v3 s.2.1 s.2.2.1 s.2.2.2) n s = some z → QG X Y 8 s.1 54 [(0, .ref (Y.2.2.1 0)), (1, .int v1), (2, .int v2), (3, .int v3), (4, .int s.2.1), (5, .int s.2.2.1), (6, .int s.2.2.2)] [] := by
  intro n
  induction n with
  | zero => intro s hf; cases hf
  | succ n ih =>
    intro s hf
    obtain ⟨y, hy, hf⟩ := qa_lp_e hf
    refine t_X6_when_54 hC hQ hy ?_
    rcases hf with ⟨s', rfl, hf⟩ | rfl
    · exact ih s' hf
    · exact hK
set_option maxRecDepth 100000 in
set_option maxHeartbeats 4000000 in
theorem tl_X6_when_54 {X : qaX} {l : Launch} {Y : qaY} {fin : Int32 × qaM} (hC : QC X l Y cX6_when RX6 8 6) (hQ : QRi X Y (some .int) fin.2 fin.1) {m : qaM} {v1 : Int32} {v2 : Int32} {v3 : Int32} {v4 : Int32} {v5 : Int32} {v6 : Int32} {z : (Int32 × qaM)} (hf : lp_X6_when_54 m v1 v2 v3 v4 v5 v6 = some z) (hK : (qa_eq fin) z) : QG X Y 8 m 54 [(0, .ref (Y.2.2.1 0)), (1, .int v1), (2, .int v2), (3, .int v3), (4, .int v4), (5, .int v5), (6, .int v6)] [] :=
  tn_X6_when_54 hC hQ hK qa_F (m, v4, v5, v6) hf
set_option maxRecDepth 100000 in
set_option maxHeartbeats 4000000 in
theorem c_X6_when (l : Launch) (Y : qaY) (m : qaM) (v1 : Int32) (v2 : Int32) (v3 : Int32) (q : Int32 × qaM) (hf : f_X6_when m v1 v2 v3 = some q) : qaMi l Y yX6_when cX6_when 8 (some .int) 6 [.ref (Y.2.2.1 0), .int v1, .int v2, .int v3] m q.2 q.1 := by
  refine qa_enti (by decide +kernel) (Nat.le_of_ble_eq_true rfl) fun X hC hQ => ?_
  have hK : qa_eq q q := rfl
  unfold f_X6_when at hf
  refine qi_aload_n hC 0 rfl rfl dX6_when_0 ?_
  refine qi_iload_n hC 1 rfl rfl dX6_when_1 ?_
  obtain ⟨q1, hq1, hf⟩ := Option.bind_eq_some_iff.mp hf
  refine qi_callVi hC (as := [.int v1]) (c_X6_isLinen _ _ _ _ _ hq1) kl_X6_123 sh_0 kc_X6_isLinen rfl rfl (by decide) (by decide) (Nat.le_of_ble_eq_true rfl) dX6_when_2 ?_
  refine qi_if_ne (tgt := 11) hC (by decide) dX6_when_5 (fun h => ?_) (fun h => ?_)
  · replace hf := qa_if_f h hf
    refine qi_iload_n hC 2 rfl rfl dX6_when_11 ?_
    refine qi_iconst hC dX6_when_12 kn_iconst_1 ?_
    refine qi_icmp_lt (tgt := 31) hC (by decide) dX6_when_13 (fun h => ?_) (fun h => ?_)
    · replace hf := qa_if_t h hf
      refine qi_bipush hC dX6_when_31 kn_bipush_m7 ?_
      obtain rfl := Option.some.inj hf
      exact qi_ireti hC hQ hK dX6_when_33
    · replace hf := qa_if_f h hf
      refine qi_iload_n hC 2 rfl rfl dX6_when_16 ?_
      refine qi_bipush hC dX6_when_17 kn_bipush_60 ?_
      refine qi_icmp_gt (tgt := 31) hC (by decide) dX6_when_19 (fun h => ?_) (fun h => ?_)
      · replace hf := qa_if_t h hf
        refine qi_bipush hC dX6_when_31 kn_bipush_m7 ?_
        obtain rfl := Option.some.inj hf
        exact qi_ireti hC hQ hK dX6_when_33
      · replace hf := qa_if_f h hf
        refine qi_iload_n hC 3 rfl rfl dX6_when_22 ?_
        refine qi_if_lt (tgt := 31) hC (by decide) dX6_when_23 (fun h => ?_) (fun h => ?_)
        · replace hf := qa_if_t h hf
          refine qi_bipush hC dX6_when_31 kn_bipush_m7 ?_
          obtain rfl := Option.some.inj hf
          exact qi_ireti hC hQ hK dX6_when_33
        · replace hf := qa_if_f h hf
          refine qi_iload_n hC 3 rfl rfl dX6_when_26 ?_
          refine qi_iconst hC dX6_when_27 kn_iconst_1 ?_
          refine qi_icmp_le (tgt := 34) hC (by decide) dX6_when_28 (fun h => ?_) (fun h => ?_)
          · replace hf := qa_if_t h hf
            refine qi_iconst hC dX6_when_34 kn_iconst_m1 ?_
            refine qi_istore hC (by decide) rfl dX6_when_35 ?_
            refine qi_iconst hC dX6_when_37 kn_iconst_m1 ?_
            refine qi_istore hC (by decide) rfl dX6_when_38 ?_
            refine qi_aload_n hC 2 rfl rfl dX6_when_40 ?_
            refine qi_getr hC kf_X6_35 sh_0 rfl dX6_when_41 ?_
            refine qi_aload_n hC 2 rfl rfl dX6_when_44 ?_
            refine qi_getr hC kf_X6_28 sh_0 rfl dX6_when_45 ?_
            obtain ⟨q2, hq2, hf⟩ := Option.bind_eq_some_iff.mp hf
            refine qi_callVv hC (as := [.ref (Y.2.2.1 8)]) (c_X0_beginsAs _ _ hou_20 hou_8 _ _ hq2) kl_X6_188 sh_20 kc_X0_beginsAs rfl rfl (by decide) (by decide) (Nat.le_of_ble_eq_true rfl) dX6_when_48 ?_
            refine qi_iconst hC dX6_when_51 kn_iconst_0 ?_
            refine qi_istore hC (by decide) rfl dX6_when_52 ?_
            refine qi_sub hC [3, 4, 5, 6, 2, 1, 0] rfl ?_
            exact tl_X6_when_54 hC hQ hf hK
          · replace hf := qa_if_f h hf
            refine qi_bipush hC dX6_when_31 kn_bipush_m7 ?_
            obtain rfl := Option.some.inj hf
            exact qi_ireti hC hQ hK dX6_when_33
  · replace hf := qa_if_t h hf
    refine qi_bipush hC dX6_when_8 kn_bipush_m5 ?_
    obtain rfl := Option.some.inj hf
    exact qi_ireti hC hQ hK dX6_when_10
set_option maxRecDepth 100000 in
set_option maxHeartbeats 4000000 in
theorem t_X6_thinksWith_30 {X : qaX} {l : Launch} {Y : qaY} {fin : qaM} (hC : QC X l Y cX6_thinksWith RX6 4 6) (hQ : QRv X Y fin) {m : qaM} {v3 : Int32} {z : (qaM)} (hf : b_X6_thinksWith_30 m v3 = some z) (hK : (qa_eq fin) z) : QG X Y 4 m 30 [(0, .ref (Y.2.2.1 0)), (3, .int v3)] [] := by
  unfold b_X6_thinksWith_30 at hf
  refine qi_aload_n hC 0 rfl rfl dX6_thinksWith_30 ?_
  refine qi_getr hC kf_X6_35 sh_0 rfl dX6_thinksWith_31 ?_
  refine qi_iload_n hC 1 rfl rfl dX6_thinksWith_34 ?_
  obtain ⟨q2, hq2, hf⟩ := Option.bind_eq_some_iff.mp hf
  refine qi_callVv hC (as := [.int v3]) (c_X0_livesWeeks _ _ hou_20 _ _ _ hq2) kl_X6_192 sh_20 kc_X0_livesWeeks rfl rfl (by decide) (by decide) (Nat.le_of_ble_eq_true rfl) dX6_thinksWith_35 ?_
  obtain rfl := Option.some.inj hf
  exact qi_vret hC hQ hK dX6_thinksWith_38
set_option maxRecDepth 100000 in
set_option maxHeartbeats 4000000 in
theorem c_X6_thinksWith (l : Launch) (Y : qaY) (m : qaM) (v1 : Int32) (v2 : Int32) (v3 : Int32) (q : qaM) (hf : f_X6_thinksWith m v1 v2 v3 = some q) : qaMv l Y yX6_thinksWith cX6_thinksWith 4 6 [.ref (Y.2.2.1 0), .int v1, .int v2, .int v3] m q := by
  refine qa_entv (by decide +kernel) (Nat.le_of_ble_eq_true rfl) fun X hC hQ => ?_
  have hK : qa_eq q q := rfl
  unfold f_X6_thinksWith at hf
  refine qi_aload_n hC 0 rfl rfl dX6_thinksWith_0 ?_
  refine qi_getr hC kf_X6_35 sh_0 rfl dX6_thinksWith_1 ?_
  refine qi_aload_n hC 0 rfl rfl dX6_thinksWith_4 ?_
  refine qi_getr hC kf_X6_28 sh_0 rfl dX6_thinksWith_5 ?_
  obtain ⟨q1, hq1, hf⟩ := Option.bind_eq_some_iff.mp hf
  refine qi_callVv hC (as := [.ref (Y.2.2.1 8)]) (c_X0_beginsAs _ _ hou_20 hou_8 _ _ hq1) kl_X6_188 sh_20 kc_X0_beginsAs rfl rfl (by decide) (by decide) (Nat.le_of_ble_eq_true rfl) dX6_thinksWith_8 ?_
  refine qi_iload_n hC 1 rfl rfl dX6_thinksWith_11 ?_
  refine qi_if_lt (tgt := 30) hC (by decide) dX6_thinksWith_12 (fun h => ?_) (fun h => ?_)
  · replace hf := qa_if_t h hf
    refine qi_sub hC [0, 3] rfl ?_
    exact t_X6_thinksWith_30 hC hQ hf hK
  · replace hf := qa_if_f h hf
    refine qi_iload_n hC 1 rfl rfl dX6_thinksWith_15 ?_
    refine qi_iconst hC dX6_thinksWith_16 kn_iconst_4 ?_
    refine qi_icmp_ge (tgt := 30) hC (by decide) dX6_thinksWith_17 (fun h => ?_) (fun h => ?_)
    · replace hf := qa_if_t h hf
      refine qi_sub hC [0, 3] rfl ?_
      exact t_X6_thinksWith_30 hC hQ hf hK
    · replace hf := qa_if_f h hf
      refine qi_aload_n hC 0 rfl rfl dX6_thinksWith_20 ?_
      refine qi_getr hC kf_X6_35 sh_0 rfl dX6_thinksWith_21 ?_
      refine qi_getr hC kf_X6_71 sh_20 rfl dX6_thinksWith_24 ?_
      refine qi_iload_n hC 1 rfl rfl dX6_thinksWith_27 ?_
      refine qi_iload_n hC 2 rfl rfl dX6_thinksWith_28 ?_
      obtain ⟨h3, hf⟩ := qa_ck_e hf
      obtain ⟨m4, em4, hf⟩ := qa_lt_e hf
      refine qi_iast hC rfl em4 sh_25 (qa_in_v h3) dX6_thinksWith_29 ?_
      refine qi_sub hC [0, 3] rfl ?_
      exact t_X6_thinksWith_30 hC hQ hf hK
set_option maxRecDepth 100000 in
set_option maxHeartbeats 4000000 in
theorem t_X6_enough_49 {X : qaX} {l : Launch} {Y : qaY} {fin : Int32 × qaM} (hC : QC X l Y cX6_enough RX6 4 7) (hQ : QRi X Y (some .int) fin.2 fin.1) {m : qaM} {v1 : Int32} {v2 : Int32} {v3 : Int32} {z : ((qaM × Int32 × Int32) ⊕ (Int32 × qaM))} (hf : b_X6_enough_49 m v1 v2 v3 = some z) (hK : (qa_K (fun s => QG X Y 4 s.1 14 [(0, .ref (Y.2.2.1 0)), (1, .int v1), (2, .int s.2.1), (3, .int s.2.2)] []) (qa_eq fin)) z) : QG X Y 4 m 49 [(0, .ref (Y.2.2.1 0)), (1, .int v1), (2, .int v2), (3, .int v3)] [] := by
  unfold b_X6_enough_49 at hf
  obtain ⟨x3, ex3, hf⟩ := qa_lt_e hf
  refine qi_iinc hC (n := 1) (v := x3) 3 rfl ((congrArg (fun q => v3 + q) kn_iconst_1).trans ex3.symm) (by decide) rfl dX6_enough_49 ?_
  refine qi_goto (tgt := 14) hC (by decide) dX6_enough_52 ?_
  obtain rfl := Option.some.inj hf
  refine qi_sub hC [1, 2, 3, 0] rfl ?_
  exact hK
set_option maxRecDepth 100000 in
set_option maxHeartbeats 4000000 in
theorem t_X6_enough_14 {X : qaX} {l : Launch} {Y : qaY} {fin : Int32 × qaM} (hC : QC X l Y cX6_enough RX6 4 7) (hQ : QRi X Y (some .int) fin.2 fin.1) {m : qaM} {v1 : Int32} {v2 : Int32} {v3 : Int32} {z : ((qaM × Int32 × Int32) ⊕ (Int32 × qaM))} (hf : b_X6_enough_14 m v1 v2 v3 = some z) (hK : (qa_K (fun s => QG X Y 4 s.1 14 [(0, .ref (Y.2.2.1 0)), (1, .int v1), (2, .int s.2.1), (3, .int s.2.2)] []) (qa_eq fin)) z) : QG X Y 4 m 14 [(0, .ref (Y.2.2.1 0)), (1, .int v1), (2, .int v2), (3, .int v3)] [] := by
  unfold b_X6_enough_14 at hf
  refine qi_iload_n hC 3 rfl rfl dX6_enough_14 ?_
  refine qi_greatest hC kg_X6_83 rfl dX6_enough_15 ?_
  refine qi_iconst hC dX6_enough_18 kn_iconst_0 ?_
  refine qi_grld hC tn_0 vi_0_4 dX6_enough_19 ?_
  refine qi_icmp_gt (tgt := 55) hC (by decide) dX6_enough_20 (fun h => ?_) (fun h => ?_)
  · replace hf := qa_if_t h hf
    refine qi_iload_n hC 2 rfl rfl dX6_enough_55 ?_
    obtain ⟨z, rfl, hg⟩ := qa_inr_e hf; have hf := hg
    obtain rfl := Option.some.inj hf
    exact qi_ireti hC hQ hK dX6_enough_56
  · replace hf := qa_if_f h hf
    refine qi_iload_n hC 2 rfl rfl dX6_enough_23 ?_
    refine qi_iload_n hC 3 rfl rfl dX6_enough_24 ?_
    refine qi_iconst hC dX6_enough_25 kn_iconst_1 ?_
    refine qi_isub hC dX6_enough_26 ?_
    refine qi_icmp_ne (tgt := 55) hC (by decide) dX6_enough_27 (fun h => ?_) (fun h => ?_)
    · replace hf := qa_if_f h hf
      refine qi_iload_n hC 2 rfl rfl dX6_enough_55 ?_
      obtain ⟨z, rfl, hg⟩ := qa_inr_e hf; have hf := hg
      obtain rfl := Option.some.inj hf
      exact qi_ireti hC hQ hK dX6_enough_56
    · replace hf := qa_if_t h hf
      refine qi_aload_n hC 0 rfl rfl dX6_enough_30 ?_
      refine qi_iconst hC dX6_enough_31 kn_iconst_0 ?_
      refine qi_iload_n hC 3 rfl rfl dX6_enough_32 ?_
      refine qi_iload_n hC 1 rfl rfl dX6_enough_33 ?_
      obtain ⟨q2, hq2, hf⟩ := Option.bind_eq_some_iff.mp hf
      refine qi_callVv hC (as := [.int (0 : Int32), .int v3, .int v1]) (c_X6_thinksWith _ _ _ _ _ _ _ hq2) kl_X6_198 sh_0 kc_X6_thinksWith rfl rfl (by decide) (by decide) (Nat.le_of_ble_eq_true rfl) dX6_enough_34 ?_
      refine qi_aload_n hC 0 rfl rfl dX6_enough_37 ?_
      refine qi_getr hC kf_X6_35 sh_0 rfl dX6_enough_38 ?_
      refine qi_geti hC kf_X6_173 sh_20 rfl dX6_enough_41 ?_
      refine qi_if_ne (tgt := 49) hC (by decide) dX6_enough_44 (fun h => ?_) (fun h => ?_)
      · replace hf := qa_if_f h hf
        exact t_X6_enough_49 hC hQ hf hK
      · replace hf := qa_if_t h hf
        refine qi_iload_n hC 3 rfl rfl dX6_enough_47 ?_
        refine qi_istore_n hC rfl (by decide) rfl dX6_enough_48 ?_
        refine qi_sub hC [1, 2, 0, 3] rfl ?_
        exact t_X6_enough_49 hC hQ hf hK
set_option maxRecDepth 100000 in
set_option maxHeartbeats 4000000 in
theorem tn_X6_enough_14 {X : qaX} {l : Launch} {Y : qaY} {fin : Int32 × qaM} (hC : QC X l Y cX6_enough RX6 4 7) (hQ : QRi X Y (some .int) fin.2 fin.1) {v1 : Int32} {z : (Int32 × qaM)} (hK : (qa_eq fin) z) : ∀ (n : Nat) (s : qaM × Int32 × Int32), qa_lp (fun s => b_X6_enough_14 s.1 v1 s.2.1 s.2.2) n s = some z → QG X Y 4 s.1 14 [(0, .ref (Y.2.2.1 0)), (1, .int v1), (2, .int s.2.1), (3, .int s.2.2)] [] := by
  intro n
  induction n with
  | zero => intro s hf; cases hf
  | succ n ih =>
    intro s hf
    obtain ⟨y, hy, hf⟩ := qa_lp_e hf
    refine t_X6_enough_14 hC hQ hy ?_
    rcases hf with ⟨s', rfl, hf⟩ | rfl
    · exact ih s' hf
    · exact hK
set_option maxRecDepth 100000 in
set_option maxHeartbeats 4000000 in
theorem tl_X6_enough_14 {X : qaX} {l : Launch} {Y : qaY} {fin : Int32 × qaM} (hC : QC X l Y cX6_enough RX6 4 7) (hQ : QRi X Y (some .int) fin.2 fin.1) {m : qaM} {v1 : Int32} {v2 : Int32} {v3 : Int32} {z : (Int32 × qaM)} (hf : lp_X6_enough_14 m v1 v2 v3 = some z) (hK : (qa_eq fin) z) : QG X Y 4 m 14 [(0, .ref (Y.2.2.1 0)), (1, .int v1), (2, .int v2), (3, .int v3)] [] :=
  tn_X6_enough_14 hC hQ hK qa_F (m, v2, v3) hf
set_option maxRecDepth 100000 in
set_option maxHeartbeats 4000000 in
theorem c_X6_enough (l : Launch) (Y : qaY) (m : qaM) (v1 : Int32) (q : Int32 × qaM) (hf : f_X6_enough m v1 = some q) : qaMi l Y yX6_enough cX6_enough 4 (some .int) 7 [.ref (Y.2.2.1 0), .int v1] m q.2 q.1 := by
  refine qa_enti (by decide +kernel) (Nat.le_of_ble_eq_true rfl) fun X hC hQ => ?_
  have hK : qa_eq q q := rfl
  unfold f_X6_enough at hf
  refine qi_iload_n hC 1 rfl rfl dX6_enough_0 ?_
  obtain ⟨q1, hq1, hf⟩ := Option.bind_eq_some_iff.mp hf
  refine qi_callSi hC (as := [.int v1]) (c_X6_isWeeks _ _ _ _ _ hq1) kl_X6_161 kc_X6_isWeeks rfl rfl (by decide) (by decide) (Nat.le_of_ble_eq_true rfl) dX6_enough_1 ?_
  refine qi_if_ne (tgt := 10) hC (by decide) dX6_enough_4 (fun h => ?_) (fun h => ?_)
  · replace hf := qa_if_f h hf
    refine qi_iconst hC dX6_enough_10 kn_iconst_0 ?_
    refine qi_istore_n hC rfl (by decide) rfl dX6_enough_11 ?_
    refine qi_iconst hC dX6_enough_12 kn_iconst_1 ?_
    refine qi_istore_n hC rfl (by decide) rfl dX6_enough_13 ?_
    refine qi_sub hC [2, 3, 1, 0] rfl ?_
    exact tl_X6_enough_14 hC hQ hf hK
  · replace hf := qa_if_t h hf
    refine qi_bipush hC dX6_enough_7 kn_bipush_m2 ?_
    obtain rfl := Option.some.inj hf
    exact qi_ireti hC hQ hK dX6_enough_9
set_option maxRecDepth 100000 in
set_option maxHeartbeats 4000000 in
theorem c_X6_feast (l : Launch) (Y : qaY) (m : qaM) (v1 : Int32) (v2 : Int32) (v3 : Int32) (q : Int32 × qaM) (hf : f_X6_feast m v1 v2 v3 = some q) : qaMi l Y yX6_feast cX6_feast 5 (some .int) 7 [.ref (Y.2.2.1 0), .int v1, .int v2, .int v3] m q.2 q.1 := by
  refine qa_enti (by decide +kernel) (Nat.le_of_ble_eq_true rfl) fun X hC hQ => ?_
  have hK : qa_eq q q := rfl
  unfold f_X6_feast at hf
  refine qi_iload_n hC 1 rfl rfl dX6_feast_0 ?_
  refine qi_iconst hC dX6_feast_1 kn_iconst_1 ?_
  refine qi_icmp_lt (tgt := 34) hC (by decide) dX6_feast_2 (fun h => ?_) (fun h => ?_)
  · replace hf := qa_if_t h hf
    refine qi_ldc hC kk_X6_201 dX6_feast_34 ?_
    obtain rfl := Option.some.inj hf
    exact qi_ireti hC hQ hK dX6_feast_36
  · replace hf := qa_if_f h hf
    refine qi_iload_n hC 1 rfl rfl dX6_feast_5 ?_
    refine qi_sipush hC dX6_feast_6 kn_sipush_200 ?_
    refine qi_icmp_gt (tgt := 34) hC (by decide) dX6_feast_9 (fun h => ?_) (fun h => ?_)
    · replace hf := qa_if_t h hf
      refine qi_ldc hC kk_X6_201 dX6_feast_34 ?_
      obtain rfl := Option.some.inj hf
      exact qi_ireti hC hQ hK dX6_feast_36
    · replace hf := qa_if_f h hf
      refine qi_iload_n hC 2 rfl rfl dX6_feast_12 ?_
      refine qi_if_lt (tgt := 34) hC (by decide) dX6_feast_13 (fun h => ?_) (fun h => ?_)
      · replace hf := qa_if_t h hf
        refine qi_ldc hC kk_X6_201 dX6_feast_34 ?_
        obtain rfl := Option.some.inj hf
        exact qi_ireti hC hQ hK dX6_feast_36
      · replace hf := qa_if_f h hf
        refine qi_iload_n hC 2 rfl rfl dX6_feast_16 ?_
        refine qi_iload_n hC 1 rfl rfl dX6_feast_17 ?_
        refine qi_icmp_ge (tgt := 34) hC (by decide) dX6_feast_18 (fun h => ?_) (fun h => ?_)
        · replace hf := qa_if_t h hf
          refine qi_ldc hC kk_X6_201 dX6_feast_34 ?_
          obtain rfl := Option.some.inj hf
          exact qi_ireti hC hQ hK dX6_feast_36
        · replace hf := qa_if_f h hf
          refine qi_iload_n hC 3 rfl rfl dX6_feast_21 ?_
          refine qi_if_lt (tgt := 34) hC (by decide) dX6_feast_22 (fun h => ?_) (fun h => ?_)
          · replace hf := qa_if_t h hf
            refine qi_ldc hC kk_X6_201 dX6_feast_34 ?_
            obtain rfl := Option.some.inj hf
            exact qi_ireti hC hQ hK dX6_feast_36
          · replace hf := qa_if_f h hf
            refine qi_iload_n hC 3 rfl rfl dX6_feast_25 ?_
            refine qi_greatest hC kg_X6_83 rfl dX6_feast_26 ?_
            refine qi_iconst hC dX6_feast_29 kn_iconst_0 ?_
            refine qi_grld hC tn_0 vi_0_4 dX6_feast_30 ?_
            refine qi_icmp_le (tgt := 37) hC (by decide) dX6_feast_31 (fun h => ?_) (fun h => ?_)
            · replace hf := qa_if_t h hf
              refine qi_aload_n hC 0 rfl rfl dX6_feast_37 ?_
              refine qi_iload_n hC 1 rfl rfl dX6_feast_38 ?_
              obtain ⟨q1, hq1, hf⟩ := Option.bind_eq_some_iff.mp hf
              refine qi_callVv hC (as := [.int v1]) (c_X6_thinks _ _ _ _ _ hq1) kl_X6_164 sh_0 kc_X6_thinks rfl rfl (by decide) (by decide) (Nat.le_of_ble_eq_true rfl) dX6_feast_39 ?_
              refine qi_aload_n hC 0 rfl rfl dX6_feast_42 ?_
              refine qi_getr hC kf_X6_35 sh_0 rfl dX6_feast_43 ?_
              refine qi_geti hC kf_X6_173 sh_20 rfl dX6_feast_46 ?_
              obtain ⟨x2, ex2, hf⟩ := qa_lt_e hf
              refine qi_nmi hC ex2 ?_
              refine qi_istore hC (by decide) rfl dX6_feast_49 ?_
              refine qi_aload_n hC 1 rfl rfl dX6_feast_51 ?_
              refine qi_getr hC kf_X6_35 sh_0 rfl dX6_feast_52 ?_
              refine qi_aload_n hC 1 rfl rfl dX6_feast_55 ?_
              refine qi_getr hC kf_X6_28 sh_0 rfl dX6_feast_56 ?_
              obtain ⟨q3, hq3, hf⟩ := Option.bind_eq_some_iff.mp hf
              refine qi_callVv hC (as := [.ref (Y.2.2.1 8)]) (c_X0_beginsAs _ _ hou_20 hou_8 _ _ hq3) kl_X6_188 sh_20 kc_X0_beginsAs rfl rfl (by decide) (by decide) (Nat.le_of_ble_eq_true rfl) dX6_feast_59 ?_
              refine qi_aload_n hC 1 rfl rfl dX6_feast_62 ?_
              refine qi_getr hC kf_X6_35 sh_0 rfl dX6_feast_63 ?_
              refine qi_iload_n hC 3 rfl rfl dX6_feast_66 ?_
              obtain ⟨q4, hq4, hf⟩ := Option.bind_eq_some_iff.mp hf
              refine qi_callVv hC (as := [.int v2]) (c_X0_livesWeeks _ _ hou_20 _ _ _ hq4) kl_X6_192 sh_20 kc_X0_livesWeeks rfl rfl (by decide) (by decide) (Nat.le_of_ble_eq_true rfl) dX6_feast_67 ?_
              refine qi_aload_n hC 1 rfl rfl dX6_feast_70 ?_
              refine qi_getr hC kf_X6_35 sh_0 rfl dX6_feast_71 ?_
              refine qi_iload_n hC 4 rfl rfl dX6_feast_74 ?_
              refine qi_aload_n hC 1 rfl rfl dX6_feast_75 ?_
              refine qi_getr hC kf_X6_35 sh_0 rfl dX6_feast_76 ?_
              refine qi_getr hC kf_X6_71 sh_20 rfl dX6_feast_79 ?_
              refine qi_iconst hC dX6_feast_82 kn_iconst_2 ?_
              refine qi_iald hC tn_2 sh_25 vi_2_4 dX6_feast_83 ?_
              obtain ⟨q5, hq5, hf⟩ := Option.bind_eq_some_iff.mp hf
              refine qi_callVi hC (as := [.int v3, .int (q4 25 2)]) (c_X0_livesWeek _ _ hou_20 _ _ _ _ hq5) kl_X6_158 sh_20 kc_X0_livesWeek rfl rfl (by decide) (by decide) (Nat.le_of_ble_eq_true rfl) dX6_feast_84 ?_
              refine qi_pop hC rfl dX6_feast_87 ?_
              refine qi_aload_n hC 1 rfl rfl dX6_feast_88 ?_
              refine qi_getr hC kf_X6_35 sh_0 rfl dX6_feast_89 ?_
              refine qi_iload_n hC 2 rfl rfl dX6_feast_92 ?_
              refine qi_iload_n hC 3 rfl rfl dX6_feast_93 ?_
              refine qi_isub hC dX6_feast_94 ?_
              refine qi_iconst hC dX6_feast_95 kn_iconst_1 ?_
              refine qi_isub hC dX6_feast_96 ?_
              obtain ⟨q6, hq6, hf⟩ := Option.bind_eq_some_iff.mp hf
              refine qi_callVv hC (as := [.int ((v1 - v2) - (1 : Int32))]) (c_X0_livesWeeks _ _ hou_20 _ _ _ hq6) kl_X6_192 sh_20 kc_X0_livesWeeks rfl rfl (by decide) (by decide) (Nat.le_of_ble_eq_true rfl) dX6_feast_97 ?_
              refine qi_aload_n hC 1 rfl rfl dX6_feast_100 ?_
              refine qi_getr hC kf_X6_35 sh_0 rfl dX6_feast_101 ?_
              refine qi_geti hC kf_X6_173 sh_20 rfl dX6_feast_104 ?_
              refine qi_iload hC 0 rfl dX6_feast_107 ?_
              refine qi_isub hC dX6_feast_109 ?_
              obtain rfl := Option.some.inj hf
              exact qi_ireti hC hQ hK dX6_feast_110
            · replace hf := qa_if_f h hf
              refine qi_ldc hC kk_X6_201 dX6_feast_34 ?_
              obtain rfl := Option.some.inj hf
              exact qi_ireti hC hQ hK dX6_feast_36
set_option maxRecDepth 100000 in
set_option maxHeartbeats 4000000 in
theorem t_X6_laundry_42 {X : qaX} {l : Launch} {Y : qaY} {fin : Int32 × qaM} (hC : QC X l Y cX6_laundry RX6 4 7) (hQ : QRi X Y (some .int) fin.2 fin.1) {m : qaM} {v1 : Int32} {v2 : Int32} {v3 : Int32} {z : ((qaM × Int32 × Int32) ⊕ (Int32 × qaM))} (hf : b_X6_laundry_42 m v1 v2 v3 = some z) (hK : (qa_K (fun s => QG X Y 4 s.1 14 [(0, .ref (Y.2.2.1 0)), (1, .int v1), (2, .int s.2.1), (3, .int s.2.2)] []) (qa_eq fin)) z) : QG X Y 4 m 42 [(0, .ref (Y.2.2.1 0)), (1, .int v1), (2, .int v2), (3, .int v3)] [] := by
  unfold b_X6_laundry_42 at hf
  obtain ⟨x3, ex3, hf⟩ := qa_lt_e hf
  refine qi_iinc hC (n := 1) (v := x3) 3 rfl ((congrArg (fun q => v3 + q) kn_iconst_1).trans ex3.symm) (by decide) rfl dX6_laundry_42 ?_
  refine qi_goto (tgt := 14) hC (by decide) dX6_laundry_45 ?_
  obtain rfl := Option.some.inj hf
  refine qi_sub hC [1, 2, 3, 0] rfl ?_
  exact hK
set_option maxRecDepth 100000 in
set_option maxHeartbeats 4000000 in
theorem t_X6_laundry_14 {X : qaX} {l : Launch} {Y : qaY} {fin : Int32 × qaM} (hC : QC X l Y cX6_laundry RX6 4 7) (hQ : QRi X Y (some .int) fin.2 fin.1) {m : qaM} {v1 : Int32} {v2 : Int32} {v3 : Int32} {z : ((qaM × Int32 × Int32) ⊕ (Int32 × qaM))} (hf : b_X6_laundry_14 m v1 v2 v3 = some z) (hK : (qa_K (fun s => QG X Y 4 s.1 14 [(0, .ref (Y.2.2.1 0)), (1, .int v1), (2, .int s.2.1), (3, .int s.2.2)] []) (qa_eq fin)) z) : QG X Y 4 m 14 [(0, .ref (Y.2.2.1 0)), (1, .int v1), (2, .int v2), (3, .int v3)] [] := by
  unfold b_X6_laundry_14 at hf
  refine qi_iload_n hC 3 rfl rfl dX6_laundry_14 ?_
  refine qi_greatest hC kg_X6_83 rfl dX6_laundry_15 ?_
  refine qi_iconst hC dX6_laundry_18 kn_iconst_1 ?_
  refine qi_grld hC tn_1 vi_1_4 dX6_laundry_19 ?_
  refine qi_icmp_gt (tgt := 48) hC (by decide) dX6_laundry_20 (fun h => ?_) (fun h => ?_)
  · replace hf := qa_if_t h hf
    refine qi_iload_n hC 2 rfl rfl dX6_laundry_48 ?_
    obtain ⟨z, rfl, hg⟩ := qa_inr_e hf; have hf := hg
    obtain rfl := Option.some.inj hf
    exact qi_ireti hC hQ hK dX6_laundry_49
  · replace hf := qa_if_f h hf
    refine qi_aload_n hC 0 rfl rfl dX6_laundry_23 ?_
    refine qi_iconst hC dX6_laundry_24 kn_iconst_1 ?_
    refine qi_iload_n hC 3 rfl rfl dX6_laundry_25 ?_
    refine qi_iload_n hC 1 rfl rfl dX6_laundry_26 ?_
    obtain ⟨q2, hq2, hf⟩ := Option.bind_eq_some_iff.mp hf
    refine qi_callVv hC (as := [.int (1 : Int32), .int v3, .int v1]) (c_X6_thinksWith _ _ _ _ _ _ _ hq2) kl_X6_198 sh_0 kc_X6_thinksWith rfl rfl (by decide) (by decide) (Nat.le_of_ble_eq_true rfl) dX6_laundry_27 ?_
    refine qi_aload_n hC 0 rfl rfl dX6_laundry_30 ?_
    refine qi_getr hC kf_X6_35 sh_0 rfl dX6_laundry_31 ?_
    refine qi_geti hC kf_X6_173 sh_20 rfl dX6_laundry_34 ?_
    refine qi_if_ne (tgt := 42) hC (by decide) dX6_laundry_37 (fun h => ?_) (fun h => ?_)
    · replace hf := qa_if_f h hf
      exact t_X6_laundry_42 hC hQ hf hK
    · replace hf := qa_if_t h hf
      refine qi_iload_n hC 3 rfl rfl dX6_laundry_40 ?_
      refine qi_istore_n hC rfl (by decide) rfl dX6_laundry_41 ?_
      refine qi_sub hC [1, 2, 0, 3] rfl ?_
      exact t_X6_laundry_42 hC hQ hf hK
set_option maxRecDepth 100000 in
set_option maxHeartbeats 4000000 in
theorem tn_X6_laundry_14 {X : qaX} {l : Launch} {Y : qaY} {fin : Int32 × qaM} (hC : QC X l Y cX6_laundry RX6 4 7) (hQ : QRi X Y (some .int) fin.2 fin.1) {v1 : Int32} {z : (Int32 × qaM)} (hK : (qa_eq fin) z) : ∀ (n : Nat) (s : qaM × Int32 × Int32), qa_lp (fun s => b_X6_laundry_14 s.1 v1 s.2.1 s.2.2) n s = some z → QG X Y 4 s.1 14 [(0, .ref (Y.2.2.1 0)), (1, .int v1), (2, .int s.2.1), (3, .int s.2.2)] [] := by
  intro n
  induction n with
  | zero => intro s hf; cases hf
  | succ n ih =>
    intro s hf
    obtain ⟨y, hy, hf⟩ := qa_lp_e hf
    refine t_X6_laundry_14 hC hQ hy ?_
    rcases hf with ⟨s', rfl, hf⟩ | rfl
    · exact ih s' hf
    · exact hK
set_option maxRecDepth 100000 in
set_option maxHeartbeats 4000000 in
theorem tl_X6_laundry_14 {X : qaX} {l : Launch} {Y : qaY} {fin : Int32 × qaM} (hC : QC X l Y cX6_laundry RX6 4 7) (hQ : QRi X Y (some .int) fin.2 fin.1) {m : qaM} {v1 : Int32} {v2 : Int32} {v3 : Int32} {z : (Int32 × qaM)} (hf : lp_X6_laundry_14 m v1 v2 v3 = some z) (hK : (qa_eq fin) z) : QG X Y 4 m 14 [(0, .ref (Y.2.2.1 0)), (1, .int v1), (2, .int v2), (3, .int v3)] [] :=
  tn_X6_laundry_14 hC hQ hK qa_F (m, v2, v3) hf
set_option maxRecDepth 100000 in
set_option maxHeartbeats 4000000 in
theorem c_X6_laundry (l : Launch) (Y : qaY) (m : qaM) (v1 : Int32) (q : Int32 × qaM) (hf : f_X6_laundry m v1 = some q) : qaMi l Y yX6_laundry cX6_laundry 4 (some .int) 7 [.ref (Y.2.2.1 0), .int v1] m q.2 q.1 := by
  refine qa_enti (by decide +kernel) (Nat.le_of_ble_eq_true rfl) fun X hC hQ => ?_
  have hK : qa_eq q q := rfl
  unfold f_X6_laundry at hf
  refine qi_iload_n hC 1 rfl rfl dX6_laundry_0 ?_
  obtain ⟨q1, hq1, hf⟩ := Option.bind_eq_some_iff.mp hf
  refine qi_callSi hC (as := [.int v1]) (c_X6_isWeeks _ _ _ _ _ hq1) kl_X6_161 kc_X6_isWeeks rfl rfl (by decide) (by decide) (Nat.le_of_ble_eq_true rfl) dX6_laundry_1 ?_
  refine qi_if_ne (tgt := 10) hC (by decide) dX6_laundry_4 (fun h => ?_) (fun h => ?_)
  · replace hf := qa_if_f h hf
    refine qi_iconst hC dX6_laundry_10 kn_iconst_m1 ?_
    refine qi_istore_n hC rfl (by decide) rfl dX6_laundry_11 ?_
    refine qi_iconst hC dX6_laundry_12 kn_iconst_0 ?_
    refine qi_istore_n hC rfl (by decide) rfl dX6_laundry_13 ?_
    refine qi_sub hC [2, 3, 1, 0] rfl ?_
    exact tl_X6_laundry_14 hC hQ hf hK
  · replace hf := qa_if_t h hf
    refine qi_bipush hC dX6_laundry_7 kn_bipush_m2 ?_
    obtain rfl := Option.some.inj hf
    exact qi_ireti hC hQ hK dX6_laundry_9
set_option maxRecDepth 100000 in
set_option maxHeartbeats 4000000 in
theorem t_X6_firstOtherwise_2 {X : qaX} {l : Launch} {Y : qaY} {fin : Int32} {m : qaM} (hC : QC X l Y cX6_firstOtherwise RX6 3 4) (hQ : QRi X Y (some .int) m fin) {v1 : Int32} {v2 : Int32} {z : ((Int32) ⊕ (Int32))} (hf : b_X6_firstOtherwise_2 m v1 v2 = some z) (hK : (qa_K (fun s => QG X Y 3 m 2 [(0, .ref (Y.2.2.1 0)), (1, .int v1), (2, .int s)] []) (qa_eq fin)) z) : QG X Y 3 m 2 [(0, .ref (Y.2.2.1 0)), (1, .int v1), (2, .int v2)] [] := by
  unfold b_X6_firstOtherwise_2 at hf
  refine qi_iload_n hC 2 rfl rfl dX6_firstOtherwise_2 ?_
  refine qi_aload_n hC 0 rfl rfl dX6_firstOtherwise_3 ?_
  refine qi_getr hC kf_X6_35 sh_0 rfl dX6_firstOtherwise_4 ?_
  refine qi_getr hC kf_X6_52 sh_20 rfl dX6_firstOtherwise_7 ?_
  refine qi_geti hC kf_X6_56 sh_21 rfl dX6_firstOtherwise_10 ?_
  refine qi_icmp_ge (tgt := 48) hC (by decide) dX6_firstOtherwise_13 (fun h => ?_) (fun h => ?_)
  · replace hf := qa_if_t h hf
    refine qi_iconst hC dX6_firstOtherwise_48 kn_iconst_m1 ?_
    obtain ⟨z, rfl, hg⟩ := qa_inr_e hf; have hf := hg
    obtain rfl := Option.some.inj hf
    exact qi_ireti hC hQ (congrArg (fun w => (w, m)) hK) dX6_firstOtherwise_49
  · replace hf := qa_if_f h hf
    refine qi_aload_n hC 0 rfl rfl dX6_firstOtherwise_16 ?_
    refine qi_getr hC kf_X6_44 sh_0 rfl dX6_firstOtherwise_17 ?_
    refine qi_iload_n hC 1 rfl rfl dX6_firstOtherwise_20 ?_
    refine qi_iload_n hC 2 rfl rfl dX6_firstOtherwise_21 ?_
    obtain ⟨q1, hq1, hf⟩ := Option.bind_eq_some_iff.mp hf
    refine qi_callVi hC (as := [.int v1, .int v2]) (c_X3_reads _ _ _ _ _ _ hq1) kl_X6_251 sh_32 kc_X3_reads rfl rfl (by decide) (by decide) (Nat.le_of_ble_eq_true rfl) dX6_firstOtherwise_22 ?_
    refine qi_aload_n hC 0 rfl rfl dX6_firstOtherwise_25 ?_
    refine qi_getr hC kf_X6_35 sh_0 rfl dX6_firstOtherwise_26 ?_
    refine qi_getr hC kf_X6_52 sh_20 rfl dX6_firstOtherwise_29 ?_
    refine qi_iload_n hC 2 rfl rfl dX6_firstOtherwise_32 ?_
    refine qi_iconst hC dX6_firstOtherwise_33 kn_iconst_2 ?_
    obtain ⟨q2, hq2, hf⟩ := Option.bind_eq_some_iff.mp hf
    refine qi_callVi hC (as := [.int v2, .int (2 : Int32)]) (c_X1_fact _ _ hou_20.2.1 _ _ _ _ hq2) kl_X6_130 sh_21 kc_X1_fact rfl rfl (by decide) (by decide) (Nat.le_of_ble_eq_true rfl) dX6_firstOtherwise_34 ?_
    refine qi_icmp_eq (tgt := 42) hC (by decide) dX6_firstOtherwise_37 (fun h => ?_) (fun h => ?_)
    · replace hf := qa_if_t h hf
      obtain ⟨x3, ex3, hf⟩ := qa_lt_e hf
      refine qi_iinc hC (n := 1) (v := x3) 2 rfl ((congrArg (fun q => v2 + q) kn_iconst_1).trans ex3.symm) (by decide) rfl dX6_firstOtherwise_42 ?_
      refine qi_goto (tgt := 2) hC (by decide) dX6_firstOtherwise_45 ?_
      obtain rfl := Option.some.inj hf
      refine qi_sub hC [1, 2, 0] rfl ?_
      exact hK
    · replace hf := qa_if_f h hf
      refine qi_iload_n hC 2 rfl rfl dX6_firstOtherwise_40 ?_
      obtain ⟨z, rfl, hg⟩ := qa_inr_e hf; have hf := hg
      obtain rfl := Option.some.inj hf
      exact qi_ireti hC hQ (congrArg (fun w => (w, m)) hK) dX6_firstOtherwise_41
set_option maxRecDepth 100000 in
set_option maxHeartbeats 4000000 in
theorem tn_X6_firstOtherwise_2 {X : qaX} {l : Launch} {Y : qaY} {fin : Int32} {m : qaM} (hC : QC X l Y cX6_firstOtherwise RX6 3 4) (hQ : QRi X Y (some .int) m fin) {v1 : Int32} {z : (Int32)} (hK : (qa_eq fin) z) : ∀ (n : Nat) (s : Int32), qa_lp (fun s => b_X6_firstOtherwise_2 m v1 s) n s = some z → QG X Y 3 m 2 [(0, .ref (Y.2.2.1 0)), (1, .int v1), (2, .int s)] [] := by
  intro n
  induction n with
  | zero => intro s hf; cases hf
  | succ n ih =>
    intro s hf
    obtain ⟨y, hy, hf⟩ := qa_lp_e hf
    refine t_X6_firstOtherwise_2 hC hQ hy ?_
    rcases hf with ⟨s', rfl, hf⟩ | rfl
    · exact ih s' hf
    · exact hK
set_option maxRecDepth 100000 in
set_option maxHeartbeats 4000000 in
theorem tl_X6_firstOtherwise_2 {X : qaX} {l : Launch} {Y : qaY} {fin : Int32} {m : qaM} (hC : QC X l Y cX6_firstOtherwise RX6 3 4) (hQ : QRi X Y (some .int) m fin) {v1 : Int32} {v2 : Int32} {z : (Int32)} (hf : lp_X6_firstOtherwise_2 m v1 v2 = some z) (hK : (qa_eq fin) z) : QG X Y 3 m 2 [(0, .ref (Y.2.2.1 0)), (1, .int v1), (2, .int v2)] [] :=
  tn_X6_firstOtherwise_2 hC hQ hK qa_F v2 hf
set_option maxRecDepth 100000 in
set_option maxHeartbeats 4000000 in
theorem c_X6_firstOtherwise (l : Launch) (Y : qaY) (m : qaM) (v1 : Int32) (q : Int32) (hf : f_X6_firstOtherwise m v1 = some q) : qaMi l Y yX6_firstOtherwise cX6_firstOtherwise 3 (some .int) 4 [.ref (Y.2.2.1 0), .int v1] m m q := by
  refine qa_enti (by decide +kernel) (Nat.le_of_ble_eq_true rfl) fun X hC hQ => ?_
  have hK : qa_eq q q := rfl
  unfold f_X6_firstOtherwise at hf
  refine qi_iconst hC dX6_firstOtherwise_0 kn_iconst_0 ?_
  refine qi_istore_n hC rfl (by decide) rfl dX6_firstOtherwise_1 ?_
  refine qi_sub hC [1, 2, 0] rfl ?_
  exact tl_X6_firstOtherwise_2 hC hQ hf hK
set_option maxRecDepth 100000 in
set_option maxHeartbeats 4000000 in
theorem c_X6_refusalOfTelling (l : Launch) (Y : qaY) (m : qaM) (v1 : Int32) (v2 : Int32) (q : Int32) (hf : f_X6_refusalOfTelling m v1 v2 = some q) : qaMi l Y yX6_refusalOfTelling cX6_refusalOfTelling 3 (some .int) 3 [.ref (Y.2.2.1 0), .int v1, .int v2] m m q := by
  refine qa_enti (by decide +kernel) (Nat.le_of_ble_eq_true rfl) fun X hC hQ => ?_
  have hK : qa_eq q q := rfl
  unfold f_X6_refusalOfTelling at hf
  refine qi_iload_n hC 1 rfl rfl dX6_refusalOfTelling_0 ?_
  obtain ⟨q1, hq1, hf⟩ := Option.bind_eq_some_iff.mp hf
  refine qi_callSi hC (as := [.int v1]) (c_X6_isSheet _ _ _ _ _ hq1) kl_X6_211 kc_X6_isSheet rfl rfl (by decide) (by decide) (Nat.le_of_ble_eq_true rfl) dX6_refusalOfTelling_1 ?_
  refine qi_if_ne (tgt := 10) hC (by decide) dX6_refusalOfTelling_4 (fun h => ?_) (fun h => ?_)
  · replace hf := qa_if_f h hf
    refine qi_aload_n hC 0 rfl rfl dX6_refusalOfTelling_10 ?_
    refine qi_getr hC kf_X6_44 sh_0 rfl dX6_refusalOfTelling_11 ?_
    refine qi_iload_n hC 1 rfl rfl dX6_refusalOfTelling_14 ?_
    obtain ⟨q2, hq2, hf⟩ := Option.bind_eq_some_iff.mp hf
    refine qi_callVi hC (as := [.int v1]) (c_X3_isMissing _ _ _ _ _ hq2) kl_X6_234 sh_32 kc_X3_isMissing rfl rfl (by decide) (by decide) (Nat.le_of_ble_eq_true rfl) dX6_refusalOfTelling_15 ?_
    refine qi_if_eq (tgt := 24) hC (by decide) dX6_refusalOfTelling_18 (fun h => ?_) (fun h => ?_)
    · replace hf := qa_if_t h hf
      refine qi_aload_n hC 0 rfl rfl dX6_refusalOfTelling_24 ?_
      refine qi_getr hC kf_X6_44 sh_0 rfl dX6_refusalOfTelling_25 ?_
      refine qi_getr hC kf_X6_261 sh_32 rfl dX6_refusalOfTelling_28 ?_
      refine qi_iload_n hC 1 rfl rfl dX6_refusalOfTelling_31 ?_
      obtain ⟨h3, hf⟩ := qa_ck_e hf
      refine qi_iald hC rfl sh_34 (qa_in_v h3) dX6_refusalOfTelling_32 ?_
      refine qi_aload_n hC 0 rfl rfl dX6_refusalOfTelling_33 ?_
      refine qi_getr hC kf_X6_28 sh_0 rfl dX6_refusalOfTelling_34 ?_
      refine qi_getr hC kf_X6_52 sh_8 rfl dX6_refusalOfTelling_37 ?_
      refine qi_geti hC kf_X6_56 sh_9 rfl dX6_refusalOfTelling_40 ?_
      refine qi_icmp_eq (tgt := 49) hC (by decide) dX6_refusalOfTelling_43 (fun h => ?_) (fun h => ?_)
      · replace hf := qa_if_t h hf
        refine qi_iload_n hC 2 rfl rfl dX6_refusalOfTelling_49 ?_
        obtain ⟨q4, hq4, hf⟩ := Option.bind_eq_some_iff.mp hf
        refine qi_callSi hC (as := [.int v2]) (c_X6_isWeeks _ _ _ _ _ hq4) kl_X6_161 kc_X6_isWeeks rfl rfl (by decide) (by decide) (Nat.le_of_ble_eq_true rfl) dX6_refusalOfTelling_50 ?_
        refine qi_if_eq (tgt := 60) hC (by decide) dX6_refusalOfTelling_53 (fun h => ?_) (fun h => ?_)
        · replace hf := qa_if_t h hf
          refine qi_bipush hC dX6_refusalOfTelling_60 kn_bipush_m7 ?_
          obtain rfl := Option.some.inj hf
          exact qi_ireti hC hQ (congrArg (fun w => (w, m)) hK) dX6_refusalOfTelling_62
        · replace hf := qa_if_f h hf
          refine qi_iconst hC dX6_refusalOfTelling_56 kn_iconst_0 ?_
          refine qi_goto (tgt := 62) hC (by decide) dX6_refusalOfTelling_57 ?_
          obtain rfl := Option.some.inj hf
          exact qi_ireti hC hQ (congrArg (fun w => (w, m)) hK) dX6_refusalOfTelling_62
      · replace hf := qa_if_f h hf
        refine qi_bipush hC dX6_refusalOfTelling_46 kn_bipush_m2 ?_
        obtain rfl := Option.some.inj hf
        exact qi_ireti hC hQ (congrArg (fun w => (w, m)) hK) dX6_refusalOfTelling_48
    · replace hf := qa_if_f h hf
      refine qi_bipush hC dX6_refusalOfTelling_21 kn_bipush_m11 ?_
      obtain rfl := Option.some.inj hf
      exact qi_ireti hC hQ (congrArg (fun w => (w, m)) hK) dX6_refusalOfTelling_23
  · replace hf := qa_if_t h hf
    refine qi_bipush hC dX6_refusalOfTelling_7 kn_bipush_m2 ?_
    obtain rfl := Option.some.inj hf
    exact qi_ireti hC hQ (congrArg (fun w => (w, m)) hK) dX6_refusalOfTelling_9
set_option maxRecDepth 100000 in
set_option maxHeartbeats 4000000 in
theorem c_X6_judge (l : Launch) (Y : qaY) (m : qaM) (v1 : Int32) (v2 : Int32) (q : Int32 × qaM) (hf : f_X6_judge m v1 v2 = some q) : qaMi l Y yX6_judge cX6_judge 4 (some .int) 7 [.ref (Y.2.2.1 0), .int v1, .int v2] m q.2 q.1 := by
  refine qa_enti (by decide +kernel) (Nat.le_of_ble_eq_true rfl) fun X hC hQ => ?_
  have hK : qa_eq q q := rfl
  unfold f_X6_judge at hf
  refine qi_aload_n hC 0 rfl rfl dX6_judge_0 ?_
  refine qi_iload_n hC 1 rfl rfl dX6_judge_1 ?_
  refine qi_iload_n hC 2 rfl rfl dX6_judge_2 ?_
  obtain ⟨q1, hq1, hf⟩ := Option.bind_eq_some_iff.mp hf
  refine qi_callVi hC (as := [.int v1, .int v2]) (c_X6_refusalOfTelling _ _ _ _ _ _ hq1) kl_X6_202 sh_0 kc_X6_refusalOfTelling rfl rfl (by decide) (by decide) (Nat.le_of_ble_eq_true rfl) dX6_judge_3 ?_
  refine qi_istore_n hC rfl (by decide) rfl dX6_judge_6 ?_
  refine qi_iload_n hC 0 rfl rfl dX6_judge_7 ?_
  refine qi_if_eq (tgt := 13) hC (by decide) dX6_judge_8 (fun h => ?_) (fun h => ?_)
  · replace hf := qa_if_t h hf
    refine qi_aload_n hC 1 rfl rfl dX6_judge_13 ?_
    refine qi_iload_n hC 3 rfl rfl dX6_judge_14 ?_
    obtain ⟨q2, hq2, hf⟩ := Option.bind_eq_some_iff.mp hf
    refine qi_callVv hC (as := [.int v2]) (c_X6_thinks _ _ _ _ _ hq2) kl_X6_164 sh_0 kc_X6_thinks rfl rfl (by decide) (by decide) (Nat.le_of_ble_eq_true rfl) dX6_judge_15 ?_
    refine qi_aload_n hC 1 rfl rfl dX6_judge_18 ?_
    refine qi_iload_n hC 2 rfl rfl dX6_judge_19 ?_
    obtain ⟨q3, hq3, hf⟩ := Option.bind_eq_some_iff.mp hf
    refine qi_callVi hC (as := [.int v1]) (c_X6_firstOtherwise _ _ _ _ _ hq3) kl_X6_205 sh_0 kc_X6_firstOtherwise rfl rfl (by decide) (by decide) (Nat.le_of_ble_eq_true rfl) dX6_judge_20 ?_
    obtain rfl := Option.some.inj hf
    exact qi_ireti hC hQ hK dX6_judge_23
  · replace hf := qa_if_f h hf
    refine qi_iload_n hC 0 rfl rfl dX6_judge_11 ?_
    obtain rfl := Option.some.inj hf
    exact qi_ireti hC hQ hK dX6_judge_12
set_option maxRecDepth 100000 in
set_option maxHeartbeats 4000000 in
theorem c_X6_bitIfTold (l : Launch) (Y : qaY) (m : qaM) (v1 : Int32) (v2 : Int32) (q : Int32) (hf : f_X6_bitIfTold m v1 v2 = some q) : qaMi l Y yX6_bitIfTold cX6_bitIfTold 3 (some .int) 5 [.ref (Y.2.2.1 0), .int v1, .int v2] m m q := by
  refine qa_enti (by decide +kernel) (Nat.le_of_ble_eq_true rfl) fun X hC hQ => ?_
  have hK : qa_eq q q := rfl
  unfold f_X6_bitIfTold at hf
  refine qi_aload_n hC 0 rfl rfl dX6_bitIfTold_0 ?_
  refine qi_iload_n hC 1 rfl rfl dX6_bitIfTold_1 ?_
  obtain ⟨q1, hq1, hf⟩ := Option.bind_eq_some_iff.mp hf
  refine qi_callVi hC (as := [.int v1]) (c_X6_firstOtherwise _ _ _ _ _ hq1) kl_X6_205 sh_0 kc_X6_firstOtherwise rfl rfl (by decide) (by decide) (Nat.le_of_ble_eq_true rfl) dX6_bitIfTold_2 ?_
  refine qi_iconst hC dX6_bitIfTold_5 kn_iconst_m1 ?_
  refine qi_icmp_ne (tgt := 15) hC (by decide) dX6_bitIfTold_6 (fun h => ?_) (fun h => ?_)
  · replace hf := qa_if_f h hf
    refine qi_iconst hC dX6_bitIfTold_15 kn_iconst_0 ?_
    obtain rfl := Option.some.inj hf
    exact qi_ireti hC hQ (congrArg (fun w => (w, m)) hK) dX6_bitIfTold_16
  · replace hf := qa_if_t h hf
    refine qi_iconst hC dX6_bitIfTold_9 kn_iconst_1 ?_
    refine qi_iload_n hC 2 rfl rfl dX6_bitIfTold_10 ?_
    refine qi_ishl hC dX6_bitIfTold_11 ?_
    refine qi_goto (tgt := 16) hC (by decide) dX6_bitIfTold_12 ?_
    obtain rfl := Option.some.inj hf
    exact qi_ireti hC hQ (congrArg (fun w => (w, m)) hK) dX6_bitIfTold_16
set_option maxRecDepth 100000 in
set_option maxHeartbeats 4000000 in
theorem t_X6_rulesOf_19 {X : qaX} {l : Launch} {Y : qaY} {fin : Int32 × qaM} (hC : QC X l Y cX6_rulesOf RX6 6 7) (hQ : QRi X Y (some .int) fin.2 fin.1) {m : qaM} {v1 : Int32} {v2 : Int32} {v4 : Int32} {v5 : Int32} {z : ((qaM × Int32 × Int32) ⊕ (Int32 × qaM))} (hf : b_X6_rulesOf_19 m v1 v2 v4 v5 = some z) (hK : (qa_K (fun s => QG X Y 6 s.1 19 [(0, .ref (Y.2.2.1 0)), (1, .int v1), (2, .int v2), (4, .int s.2.1), (5, .int s.2.2)] []) (qa_eq fin)) z) : QG X Y 6 m 19 [(0, .ref (Y.2.2.1 0)), (1, .int v1), (2, .int v2), (4, .int v4), (5, .int v5)] [] := by
  unfold b_X6_rulesOf_19 at hf
  refine qi_iload hC 4 rfl dX6_rulesOf_19 ?_
  refine qi_bipush hC dX6_rulesOf_21 kn_bipush_12 ?_
  refine qi_icmp_ge (tgt := 51) hC (by decide) dX6_rulesOf_23 (fun h => ?_) (fun h => ?_)
  · replace hf := qa_if_t h hf
    refine qi_iload hC 3 rfl dX6_rulesOf_51 ?_
    obtain ⟨z, rfl, hg⟩ := qa_inr_e hf; have hf := hg
    obtain rfl := Option.some.inj hf
    exact qi_ireti hC hQ hK dX6_rulesOf_53
  · replace hf := qa_if_f h hf
    refine qi_aload_n hC 0 rfl rfl dX6_rulesOf_26 ?_
    refine qi_iload hC 4 rfl dX6_rulesOf_27 ?_
    refine qi_iload_n hC 2 rfl rfl dX6_rulesOf_29 ?_
    obtain ⟨q2, hq2, hf⟩ := Option.bind_eq_some_iff.mp hf
    refine qi_callVv hC (as := [.int v5, .int v2]) (c_X6_thinksByRules _ _ _ _ _ _ hq2) kl_X6_182 sh_0 kc_X6_thinksByRules rfl rfl (by decide) (by decide) (Nat.le_of_ble_eq_true rfl) dX6_rulesOf_30 ?_
    refine qi_iload hC 3 rfl dX6_rulesOf_33 ?_
    refine qi_aload_n hC 0 rfl rfl dX6_rulesOf_35 ?_
    refine qi_iload_n hC 1 rfl rfl dX6_rulesOf_36 ?_
    refine qi_iload hC 4 rfl dX6_rulesOf_37 ?_
    obtain ⟨q3, hq3, hf⟩ := Option.bind_eq_some_iff.mp hf
    refine qi_callVi hC (as := [.int v1, .int v5]) (c_X6_bitIfTold _ _ _ _ _ _ hq3) kl_X6_208 sh_0 kc_X6_bitIfTold rfl rfl (by decide) (by decide) (Nat.le_of_ble_eq_true rfl) dX6_rulesOf_39 ?_
    refine qi_ior hC dX6_rulesOf_42 ?_
    obtain ⟨x4, ex4, hf⟩ := qa_lt_e hf
    refine qi_nmi hC ex4 ?_
    refine qi_istore hC (by decide) rfl dX6_rulesOf_43 ?_
    obtain ⟨x5, ex5, hf⟩ := qa_lt_e hf
    refine qi_iinc hC (n := 1) (v := x5) 4 rfl ((congrArg (fun q => v5 + q) kn_iconst_1).trans ex5.symm) (by decide) rfl dX6_rulesOf_45 ?_
    refine qi_goto (tgt := 19) hC (by decide) dX6_rulesOf_48 ?_
    obtain rfl := Option.some.inj hf
    refine qi_sub hC [2, 3, 4, 1, 0] rfl ?_
    exact hK
set_option maxRecDepth 100000 in
set_option maxHeartbeats 4000000 in
theorem tn_X6_rulesOf_19 {X : qaX} {l : Launch} {Y : qaY} {fin : Int32 × qaM} (hC : QC X l Y cX6_rulesOf RX6 6 7) (hQ : QRi X Y (some .int) fin.2 fin.1) {v1 : Int32} {v2 : Int32} {z : (Int32 × qaM)} (hK : (qa_eq fin) z) : ∀ (n : Nat) (s : qaM × Int32 × Int32), qa_lp (fun s => b_X6_rulesOf_19 s.1 v1 v2 s.2.1 s.2.2) n s = some z → QG X Y 6 s.1 19 [(0, .ref (Y.2.2.1 0)), (1, .int v1), (2, .int v2), (4, .int s.2.1), (5, .int s.2.2)] [] := by
  intro n
  induction n with
  | zero => intro s hf; cases hf
  | succ n ih =>
    intro s hf
    obtain ⟨y, hy, hf⟩ := qa_lp_e hf
    refine t_X6_rulesOf_19 hC hQ hy ?_
    rcases hf with ⟨s', rfl, hf⟩ | rfl
    · exact ih s' hf
    · exact hK
set_option maxRecDepth 100000 in
set_option maxHeartbeats 4000000 in
theorem tl_X6_rulesOf_19 {X : qaX} {l : Launch} {Y : qaY} {fin : Int32 × qaM} (hC : QC X l Y cX6_rulesOf RX6 6 7) (hQ : QRi X Y (some .int) fin.2 fin.1) {m : qaM} {v1 : Int32} {v2 : Int32} {v4 : Int32} {v5 : Int32} {z : (Int32 × qaM)} (hf : lp_X6_rulesOf_19 m v1 v2 v4 v5 = some z) (hK : (qa_eq fin) z) : QG X Y 6 m 19 [(0, .ref (Y.2.2.1 0)), (1, .int v1), (2, .int v2), (4, .int v4), (5, .int v5)] [] :=
  tn_X6_rulesOf_19 hC hQ hK qa_F (m, v4, v5) hf
set_option maxRecDepth 100000 in
set_option maxHeartbeats 4000000 in
theorem c_X6_rulesOf (l : Launch) (Y : qaY) (m : qaM) (v1 : Int32) (v2 : Int32) (q : Int32 × qaM) (hf : f_X6_rulesOf m v1 v2 = some q) : qaMi l Y yX6_rulesOf cX6_rulesOf 6 (some .int) 7 [.ref (Y.2.2.1 0), .int v1, .int v2] m q.2 q.1 := by
  refine qa_enti (by decide +kernel) (Nat.le_of_ble_eq_true rfl) fun X hC hQ => ?_
  have hK : qa_eq q q := rfl
  unfold f_X6_rulesOf at hf
  refine qi_aload_n hC 0 rfl rfl dX6_rulesOf_0 ?_
  refine qi_iload_n hC 1 rfl rfl dX6_rulesOf_1 ?_
  refine qi_iload_n hC 2 rfl rfl dX6_rulesOf_2 ?_
  obtain ⟨q1, hq1, hf⟩ := Option.bind_eq_some_iff.mp hf
  refine qi_callVi hC (as := [.int v1, .int v2]) (c_X6_refusalOfTelling _ _ _ _ _ _ hq1) kl_X6_202 sh_0 kc_X6_refusalOfTelling rfl rfl (by decide) (by decide) (Nat.le_of_ble_eq_true rfl) dX6_rulesOf_3 ?_
  refine qi_istore_n hC rfl (by decide) rfl dX6_rulesOf_6 ?_
  refine qi_iload_n hC 0 rfl rfl dX6_rulesOf_7 ?_
  refine qi_if_eq (tgt := 13) hC (by decide) dX6_rulesOf_8 (fun h => ?_) (fun h => ?_)
  · replace hf := qa_if_t h hf
    refine qi_iconst hC dX6_rulesOf_13 kn_iconst_0 ?_
    refine qi_istore hC (by decide) rfl dX6_rulesOf_14 ?_
    refine qi_iconst hC dX6_rulesOf_16 kn_iconst_0 ?_
    refine qi_istore hC (by decide) rfl dX6_rulesOf_17 ?_
    refine qi_sub hC [3, 4, 5, 1, 0] rfl ?_
    exact tl_X6_rulesOf_19 hC hQ hf hK
  · replace hf := qa_if_f h hf
    refine qi_iload_n hC 0 rfl rfl dX6_rulesOf_11 ?_
    obtain rfl := Option.some.inj hf
    exact qi_ireti hC hQ hK dX6_rulesOf_12
set_option maxRecDepth 100000 in
set_option maxHeartbeats 4000000 in
theorem t_X6_kinds_69 {X : qaX} {l : Launch} {Y : qaY} {fin : Int32 × qaM} (hC : QC X l Y cX6_kinds RX6 9 6) (hQ : QRi X Y (some .int) fin.2 fin.1) {m : qaM} {v1 : Int32} {v2 : Int32} {v3 : Int32} {v5 : Int32} {v6 : Int32} {v7 : Int32} {v8 : Int32} {z : ((qaM × Int32 × Int32) ⊕ (Int32 × qaM))} (hf : b_X6_kinds_69 m v1 v2 v3 v5 v6 v7 v8 = some z) (hK : (qa_K (fun s => QG X Y 9 s.1 69 [(0, .ref (Y.2.2.1 0)), (1, .int v1), (2, .int v2), (3, .int v3), (5, .int v5), (6, .int s.2.1), (7, .int v7), (8, .int s.2.2)] []) (qa_eq fin)) z) : QG X Y 9 m 69 [(0, .ref (Y.2.2.1 0)), (1, .int v1), (2, .int v2), (3, .int v3), (5, .int v5), (6, .int v6), (7, .int v7), (8, .int v8)] [] := by
  unfold b_X6_kinds_69 at hf
  refine qi_iload hC 7 rfl dX6_kinds_69 ?_
  refine qi_iload hC 6 rfl dX6_kinds_71 ?_
  refine qi_icmp_ge (tgt := 133) hC (by decide) dX6_kinds_73 (fun h => ?_) (fun h => ?_)
  · replace hf := qa_if_t h hf
    refine qi_iload hC 5 rfl dX6_kinds_133 ?_
    obtain ⟨z, rfl, hg⟩ := qa_inr_e hf; have hf := hg
    obtain rfl := Option.some.inj hf
    exact qi_ireti hC hQ hK dX6_kinds_135
  · replace hf := qa_if_f h hf
    refine qi_aload_n hC 0 rfl rfl dX6_kinds_76 ?_
    refine qi_getr hC kf_X6_35 sh_0 rfl dX6_kinds_77 ?_
    refine qi_aload_n hC 0 rfl rfl dX6_kinds_80 ?_
    refine qi_getr hC kf_X6_28 sh_0 rfl dX6_kinds_81 ?_
    obtain ⟨q4, hq4, hf⟩ := Option.bind_eq_some_iff.mp hf
    refine qi_callVv hC (as := [.ref (Y.2.2.1 8)]) (c_X0_beginsAs _ _ hou_20 hou_8 _ _ hq4) kl_X6_188 sh_20 kc_X0_beginsAs rfl rfl (by decide) (by decide) (Nat.le_of_ble_eq_true rfl) dX6_kinds_84 ?_
    refine qi_aload_n hC 0 rfl rfl dX6_kinds_87 ?_
    refine qi_getr hC kf_X6_35 sh_0 rfl dX6_kinds_88 ?_
    refine qi_getr hC kf_X6_52 sh_20 rfl dX6_kinds_91 ?_
    refine qi_iload_n hC 3 rfl rfl dX6_kinds_94 ?_
    refine qi_bipush hC dX6_kinds_95 kn_bipush_10 ?_
    refine qi_idiv hC (by decide) dX6_kinds_97 ?_
    refine qi_iconst hC dX6_kinds_98 kn_iconst_0 ?_
    refine qi_iload hC 4 rfl dX6_kinds_99 ?_
    refine qi_iadd hC dX6_kinds_101 ?_
    refine qi_iload hC 7 rfl dX6_kinds_102 ?_
    obtain ⟨q5, hq5, hf⟩ := Option.bind_eq_some_iff.mp hf
    refine qi_callVv hC (as := [.int (v3 / (10 : Int32)), .int ((0 : Int32) + v5), .int v8]) (c_X1_notes _ _ hou_20.2.1 _ _ _ _ _ hq5) kl_X6_133 sh_21 kc_X1_notes rfl rfl (by decide) (by decide) (Nat.le_of_ble_eq_true rfl) dX6_kinds_104 ?_
    refine qi_aload_n hC 0 rfl rfl dX6_kinds_107 ?_
    refine qi_getr hC kf_X6_35 sh_0 rfl dX6_kinds_108 ?_
    refine qi_iload_n hC 2 rfl rfl dX6_kinds_111 ?_
    obtain ⟨q6, hq6, hf⟩ := Option.bind_eq_some_iff.mp hf
    refine qi_callVv hC (as := [.int v2]) (c_X0_livesWeeks _ _ hou_20 _ _ _ hq6) kl_X6_192 sh_20 kc_X0_livesWeeks rfl rfl (by decide) (by decide) (Nat.le_of_ble_eq_true rfl) dX6_kinds_112 ?_
    refine qi_iload hC 5 rfl dX6_kinds_115 ?_
    refine qi_aload_n hC 0 rfl rfl dX6_kinds_117 ?_
    refine qi_iload_n hC 1 rfl rfl dX6_kinds_118 ?_
    refine qi_iload hC 7 rfl dX6_kinds_119 ?_
    obtain ⟨q7, hq7, hf⟩ := Option.bind_eq_some_iff.mp hf
    refine qi_callVi hC (as := [.int v1, .int v8]) (c_X6_bitIfTold _ _ _ _ _ _ hq7) kl_X6_208 sh_0 kc_X6_bitIfTold rfl rfl (by decide) (by decide) (Nat.le_of_ble_eq_true rfl) dX6_kinds_121 ?_
    refine qi_ior hC dX6_kinds_124 ?_
    obtain ⟨x8, ex8, hf⟩ := qa_lt_e hf
    refine qi_nmi hC ex8 ?_
    refine qi_istore hC (by decide) rfl dX6_kinds_125 ?_
    obtain ⟨x9, ex9, hf⟩ := qa_lt_e hf
    refine qi_iinc hC (n := 1) (v := x9) 7 rfl ((congrArg (fun q => v8 + q) kn_iconst_1).trans ex9.symm) (by decide) rfl dX6_kinds_127 ?_
    refine qi_goto (tgt := 69) hC (by decide) dX6_kinds_130 ?_
    obtain rfl := Option.some.inj hf
    refine qi_sub hC [2, 3, 4, 5, 6, 1, 7, 0] rfl ?_
    exact hK
set_option maxRecDepth 100000 in
set_option maxHeartbeats 4000000 in
theorem tn_X6_kinds_69 {X : qaX} {l : Launch} {Y : qaY} {fin : Int32 × qaM} (hC : QC X l Y cX6_kinds RX6 9 6) (hQ : QRi X Y (some .int) fin.2 fin.1) {v1 : Int32} {v2 : Int32} {v3 : Int32} {v5 : Int32} {v7 : Int32} {z : (Int32 × qaM)} (hK : (qa_eq fin) z) : ∀ (n : Nat) (s : qaM × Int32 × Int32), qa_lp (fun s => b_X6_kinds_69 s.1 v1 v2 v3 v5 s.2.1 v7 s.2.2) n s = some z → QG X Y 9 s.1 69 [(0, .ref (Y.2.2.1 0)), (1, .int v1), (2, .int v2), (3, .int v3), (5, .int v5), (6, .int s.2.1), (7, .int v7), (8, .int s.2.2)] [] := by
  intro n
  induction n with
  | zero => intro s hf; cases hf
  | succ n ih =>
    intro s hf
    obtain ⟨y, hy, hf⟩ := qa_lp_e hf
    refine t_X6_kinds_69 hC hQ hy ?_
    rcases hf with ⟨s', rfl, hf⟩ | rfl
    · exact ih s' hf
    · exact hK
set_option maxRecDepth 100000 in
set_option maxHeartbeats 4000000 in
theorem tl_X6_kinds_69 {X : qaX} {l : Launch} {Y : qaY} {fin : Int32 × qaM} (hC : QC X l Y cX6_kinds RX6 9 6) (hQ : QRi X Y (some .int) fin.2 fin.1) {m : qaM} {v1 : Int32} {v2 : Int32} {v3 : Int32} {v5 : Int32} {v6 : Int32} {v7 : Int32} {v8 : Int32} {z : (Int32 × qaM)} (hf : lp_X6_kinds_69 m v1 v2 v3 v5 v6 v7 v8 = some z) (hK : (qa_eq fin) z) : QG X Y 9 m 69 [(0, .ref (Y.2.2.1 0)), (1, .int v1), (2, .int v2), (3, .int v3), (5, .int v5), (6, .int v6), (7, .int v7), (8, .int v8)] [] :=
  tn_X6_kinds_69 hC hQ hK qa_F (m, v6, v8) hf
set_option maxRecDepth 100000 in
set_option maxHeartbeats 4000000 in
theorem t_X6_kinds_64 {X : qaX} {l : Launch} {Y : qaY} {fin : Int32 × qaM} (hC : QC X l Y cX6_kinds RX6 9 6) (hQ : QRi X Y (some .int) fin.2 fin.1) {m : qaM} {v1 : Int32} {v2 : Int32} {v3 : Int32} {v5 : Int32} {v6 : Int32} {s0 : Int32} {z : (Int32 × qaM)} (hf : b_X6_kinds_64 m v1 v2 v3 v5 v6 s0 = some z) (hK : (qa_eq fin) z) : QG X Y 9 m 64 [(0, .ref (Y.2.2.1 0)), (1, .int v1), (2, .int v2), (3, .int v3), (5, .int v5), (6, .int v6)] [.int s0] := by
  unfold b_X6_kinds_64 at hf
  refine qi_istore hC (by decide) rfl dX6_kinds_64 ?_
  refine qi_iconst hC dX6_kinds_66 kn_iconst_0 ?_
  refine qi_istore hC (by decide) rfl dX6_kinds_67 ?_
  refine qi_sub hC [2, 3, 4, 5, 6, 7, 1, 0] rfl ?_
  exact tl_X6_kinds_69 hC hQ hf hK
set_option maxRecDepth 100000 in
set_option maxHeartbeats 4000000 in
theorem c_X6_kinds (l : Launch) (Y : qaY) (m : qaM) (v1 : Int32) (v2 : Int32) (v3 : Int32) (q : Int32 × qaM) (hf : f_X6_kinds m v1 v2 v3 = some q) : qaMi l Y yX6_kinds cX6_kinds 9 (some .int) 6 [.ref (Y.2.2.1 0), .int v1, .int v2, .int v3] m q.2 q.1 := by
  refine qa_enti (by decide +kernel) (Nat.le_of_ble_eq_true rfl) fun X hC hQ => ?_
  have hK : qa_eq q q := rfl
  unfold f_X6_kinds at hf
  refine qi_aload_n hC 0 rfl rfl dX6_kinds_0 ?_
  refine qi_iload_n hC 1 rfl rfl dX6_kinds_1 ?_
  refine qi_iload_n hC 2 rfl rfl dX6_kinds_2 ?_
  obtain ⟨q1, hq1, hf⟩ := Option.bind_eq_some_iff.mp hf
  refine qi_callVi hC (as := [.int v1, .int v2]) (c_X6_refusalOfTelling _ _ _ _ _ _ hq1) kl_X6_202 sh_0 kc_X6_refusalOfTelling rfl rfl (by decide) (by decide) (Nat.le_of_ble_eq_true rfl) dX6_kinds_3 ?_
  refine qi_istore hC (by decide) rfl dX6_kinds_6 ?_
  refine qi_iload hC 0 rfl dX6_kinds_8 ?_
  refine qi_if_eq (tgt := 16) hC (by decide) dX6_kinds_10 (fun h => ?_) (fun h => ?_)
  · replace hf := qa_if_t h hf
    refine qi_iload_n hC 4 rfl rfl dX6_kinds_16 ?_
    refine qi_if_lt (tgt := 31) hC (by decide) dX6_kinds_17 (fun h => ?_) (fun h => ?_)
    · replace hf := qa_if_t h hf
      refine qi_bipush hC dX6_kinds_31 kn_bipush_m5 ?_
      obtain rfl := Option.some.inj hf
      exact qi_ireti hC hQ hK dX6_kinds_33
    · replace hf := qa_if_f h hf
      refine qi_aload_n hC 1 rfl rfl dX6_kinds_20 ?_
      refine qi_iload_n hC 4 rfl rfl dX6_kinds_21 ?_
      refine qi_bipush hC dX6_kinds_22 kn_bipush_10 ?_
      refine qi_idiv hC (by decide) dX6_kinds_24 ?_
      obtain ⟨q2, hq2, hf⟩ := Option.bind_eq_some_iff.mp hf
      refine qi_callVi hC (as := [.int (v3 / (10 : Int32))]) (c_X6_isLinen _ _ _ _ _ hq2) kl_X6_123 sh_0 kc_X6_isLinen rfl rfl (by decide) (by decide) (Nat.le_of_ble_eq_true rfl) dX6_kinds_25 ?_
      refine qi_if_ne (tgt := 34) hC (by decide) dX6_kinds_28 (fun h => ?_) (fun h => ?_)
      · replace hf := qa_if_f h hf
        refine qi_iload_n hC 4 rfl rfl dX6_kinds_34 ?_
        refine qi_bipush hC dX6_kinds_35 kn_bipush_10 ?_
        refine qi_irem hC (by decide) dX6_kinds_37 ?_
        obtain ⟨x3, ex3, hf⟩ := qa_lt_e hf
        refine qi_nmi hC ex3 ?_
        refine qi_istore hC (by decide) rfl dX6_kinds_38 ?_
        refine qi_iload hC 0 rfl dX6_kinds_40 ?_
        refine qi_iconst hC dX6_kinds_42 kn_iconst_1 ?_
        refine qi_icmp_le (tgt := 49) hC (by decide) dX6_kinds_43 (fun h => ?_) (fun h => ?_)
        · replace hf := qa_if_t h hf
          refine qi_iconst hC dX6_kinds_49 kn_iconst_0 ?_
          refine qi_istore hC (by decide) rfl dX6_kinds_50 ?_
          refine qi_iload hC 1 rfl dX6_kinds_52 ?_
          refine qi_if_ne (tgt := 62) hC (by decide) dX6_kinds_54 (fun h => ?_) (fun h => ?_)
          · replace hf := qa_if_f h hf
            refine qi_bipush hC dX6_kinds_62 kn_bipush_10 ?_
            refine qi_sub hC [3, 4, 5, 6, 1, 0] rfl ?_
            exact t_X6_kinds_64 hC hQ hf hK
          · replace hf := qa_if_t h hf
            refine qi_bipush hC dX6_kinds_57 kn_bipush_6 ?_
            refine qi_goto (tgt := 64) hC (by decide) dX6_kinds_59 ?_
            refine qi_sub hC [3, 4, 5, 6, 1, 0] rfl ?_
            exact t_X6_kinds_64 hC hQ hf hK
        · replace hf := qa_if_f h hf
          refine qi_bipush hC dX6_kinds_46 kn_bipush_m7 ?_
          obtain rfl := Option.some.inj hf
          exact qi_ireti hC hQ hK dX6_kinds_48
      · replace hf := qa_if_t h hf
        refine qi_bipush hC dX6_kinds_31 kn_bipush_m5 ?_
        obtain rfl := Option.some.inj hf
        exact qi_ireti hC hQ hK dX6_kinds_33
  · replace hf := qa_if_f h hf
    refine qi_iload hC 0 rfl dX6_kinds_13 ?_
    obtain rfl := Option.some.inj hf
    exact qi_ireti hC hQ hK dX6_kinds_15
set_option maxRecDepth 100000 in
set_option maxHeartbeats 4000000 in
theorem t_X6_wants_34 {X : qaX} {l : Launch} {Y : qaY} {fin : Int32 × qaM} (hC : QC X l Y cX6_wants RX6 7 7) (hQ : QRi X Y (some .int) fin.2 fin.1) {m : qaM} {v1 : Int32} {v2 : Int32} {v3 : Int32} {v5 : Int32} {v6 : Int32} {z : ((qaM × Int32 × Int32) ⊕ (Int32 × qaM))} (hf : b_X6_wants_34 m v1 v2 v3 v5 v6 = some z) (hK : (qa_K (fun s => QG X Y 7 s.1 34 [(0, .ref (Y.2.2.1 0)), (1, .int v1), (2, .int v2), (3, .int v3), (5, .int s.2.1), (6, .int s.2.2)] []) (qa_eq fin)) z) : QG X Y 7 m 34 [(0, .ref (Y.2.2.1 0)), (1, .int v1), (2, .int v2), (3, .int v3), (5, .int v5), (6, .int v6)] [] := by
  unfold b_X6_wants_34 at hf
  refine qi_iload hC 5 rfl dX6_wants_34 ?_
  refine qi_greatest hC kg_X6_83 rfl dX6_wants_36 ?_
  refine qi_iload_n hC 3 rfl rfl dX6_wants_39 ?_
  obtain ⟨h2, hf⟩ := qa_ck_e hf
  refine qi_grld hC rfl (qa_in_v h2) dX6_wants_40 ?_
  refine qi_icmp_gt (tgt := 70) hC (by decide) dX6_wants_41 (fun h => ?_) (fun h => ?_)
  · replace hf := qa_if_t h hf
    refine qi_iload hC 4 rfl dX6_wants_70 ?_
    obtain ⟨z, rfl, hg⟩ := qa_inr_e hf; have hf := hg
    obtain rfl := Option.some.inj hf
    exact qi_ireti hC hQ hK dX6_wants_72
  · replace hf := qa_if_f h hf
    refine qi_aload_n hC 0 rfl rfl dX6_wants_44 ?_
    refine qi_iload_n hC 3 rfl rfl dX6_wants_45 ?_
    refine qi_iload hC 5 rfl dX6_wants_46 ?_
    refine qi_iload_n hC 2 rfl rfl dX6_wants_48 ?_
    obtain ⟨q3, hq3, hf⟩ := Option.bind_eq_some_iff.mp hf
    refine qi_callVv hC (as := [.int v3, .int v6, .int v2]) (c_X6_thinksWith _ _ _ _ _ _ _ hq3) kl_X6_198 sh_0 kc_X6_thinksWith rfl rfl (by decide) (by decide) (Nat.le_of_ble_eq_true rfl) dX6_wants_49 ?_
    refine qi_iload hC 4 rfl dX6_wants_52 ?_
    refine qi_aload_n hC 0 rfl rfl dX6_wants_54 ?_
    refine qi_iload_n hC 1 rfl rfl dX6_wants_55 ?_
    refine qi_iload hC 5 rfl dX6_wants_56 ?_
    obtain ⟨q4, hq4, hf⟩ := Option.bind_eq_some_iff.mp hf
    refine qi_callVi hC (as := [.int v1, .int v6]) (c_X6_bitIfTold _ _ _ _ _ _ hq4) kl_X6_208 sh_0 kc_X6_bitIfTold rfl rfl (by decide) (by decide) (Nat.le_of_ble_eq_true rfl) dX6_wants_58 ?_
    refine qi_ior hC dX6_wants_61 ?_
    obtain ⟨x5, ex5, hf⟩ := qa_lt_e hf
    refine qi_nmi hC ex5 ?_
    refine qi_istore hC (by decide) rfl dX6_wants_62 ?_
    obtain ⟨x6, ex6, hf⟩ := qa_lt_e hf
    refine qi_iinc hC (n := 1) (v := x6) 5 rfl ((congrArg (fun q => v6 + q) kn_iconst_1).trans ex6.symm) (by decide) rfl dX6_wants_64 ?_
    refine qi_goto (tgt := 34) hC (by decide) dX6_wants_67 ?_
    obtain rfl := Option.some.inj hf
    refine qi_sub hC [2, 3, 4, 5, 1, 0] rfl ?_
    exact hK
set_option maxRecDepth 100000 in
set_option maxHeartbeats 4000000 in
theorem tn_X6_wants_34 {X : qaX} {l : Launch} {Y : qaY} {fin : Int32 × qaM} (hC : QC X l Y cX6_wants RX6 7 7) (hQ : QRi X Y (some .int) fin.2 fin.1) {v1 : Int32} {v2 : Int32} {v3 : Int32} {z : (Int32 × qaM)} (hK : (qa_eq fin) z) : ∀ (n : Nat) (s : qaM × Int32 × Int32), qa_lp (fun s => b_X6_wants_34 s.1 v1 v2 v3 s.2.1 s.2.2) n s = some z → QG X Y 7 s.1 34 [(0, .ref (Y.2.2.1 0)), (1, .int v1), (2, .int v2), (3, .int v3), (5, .int s.2.1), (6, .int s.2.2)] [] := by
  intro n
  induction n with
  | zero => intro s hf; cases hf
  | succ n ih =>
    intro s hf
    obtain ⟨y, hy, hf⟩ := qa_lp_e hf
    refine t_X6_wants_34 hC hQ hy ?_
    rcases hf with ⟨s', rfl, hf⟩ | rfl
    · exact ih s' hf
    · exact hK
set_option maxRecDepth 100000 in
set_option maxHeartbeats 4000000 in
theorem tl_X6_wants_34 {X : qaX} {l : Launch} {Y : qaY} {fin : Int32 × qaM} (hC : QC X l Y cX6_wants RX6 7 7) (hQ : QRi X Y (some .int) fin.2 fin.1) {m : qaM} {v1 : Int32} {v2 : Int32} {v3 : Int32} {v5 : Int32} {v6 : Int32} {z : (Int32 × qaM)} (hf : lp_X6_wants_34 m v1 v2 v3 v5 v6 = some z) (hK : (qa_eq fin) z) : QG X Y 7 m 34 [(0, .ref (Y.2.2.1 0)), (1, .int v1), (2, .int v2), (3, .int v3), (5, .int v5), (6, .int v6)] [] :=
  tn_X6_wants_34 hC hQ hK qa_F (m, v5, v6) hf
set_option maxRecDepth 100000 in
set_option maxHeartbeats 4000000 in
theorem c_X6_wants (l : Launch) (Y : qaY) (m : qaM) (v1 : Int32) (v2 : Int32) (v3 : Int32) (q : Int32 × qaM) (hf : f_X6_wants m v1 v2 v3 = some q) : qaMi l Y yX6_wants cX6_wants 7 (some .int) 7 [.ref (Y.2.2.1 0), .int v1, .int v2, .int v3] m q.2 q.1 := by
  refine qa_enti (by decide +kernel) (Nat.le_of_ble_eq_true rfl) fun X hC hQ => ?_
  have hK : qa_eq q q := rfl
  unfold f_X6_wants at hf
  refine qi_aload_n hC 0 rfl rfl dX6_wants_0 ?_
  refine qi_iload_n hC 1 rfl rfl dX6_wants_1 ?_
  refine qi_iload_n hC 2 rfl rfl dX6_wants_2 ?_
  obtain ⟨q1, hq1, hf⟩ := Option.bind_eq_some_iff.mp hf
  refine qi_callVi hC (as := [.int v1, .int v2]) (c_X6_refusalOfTelling _ _ _ _ _ _ hq1) kl_X6_202 sh_0 kc_X6_refusalOfTelling rfl rfl (by decide) (by decide) (Nat.le_of_ble_eq_true rfl) dX6_wants_3 ?_
  refine qi_istore hC (by decide) rfl dX6_wants_6 ?_
  refine qi_iload hC 0 rfl dX6_wants_8 ?_
  refine qi_if_eq (tgt := 16) hC (by decide) dX6_wants_10 (fun h => ?_) (fun h => ?_)
  · replace hf := qa_if_t h hf
    refine qi_iload_n hC 4 rfl rfl dX6_wants_16 ?_
    refine qi_if_lt (tgt := 25) hC (by decide) dX6_wants_17 (fun h => ?_) (fun h => ?_)
    · replace hf := qa_if_t h hf
      refine qi_bipush hC dX6_wants_25 kn_bipush_m7 ?_
      obtain rfl := Option.some.inj hf
      exact qi_ireti hC hQ hK dX6_wants_27
    · replace hf := qa_if_f h hf
      refine qi_iload_n hC 4 rfl rfl dX6_wants_20 ?_
      refine qi_iconst hC dX6_wants_21 kn_iconst_1 ?_
      refine qi_icmp_le (tgt := 28) hC (by decide) dX6_wants_22 (fun h => ?_) (fun h => ?_)
      · replace hf := qa_if_t h hf
        refine qi_iconst hC dX6_wants_28 kn_iconst_0 ?_
        refine qi_istore hC (by decide) rfl dX6_wants_29 ?_
        refine qi_iconst hC dX6_wants_31 kn_iconst_0 ?_
        refine qi_istore hC (by decide) rfl dX6_wants_32 ?_
        refine qi_sub hC [3, 4, 5, 6, 1, 0] rfl ?_
        exact tl_X6_wants_34 hC hQ hf hK
      · replace hf := qa_if_f h hf
        refine qi_bipush hC dX6_wants_25 kn_bipush_m7 ?_
        obtain rfl := Option.some.inj hf
        exact qi_ireti hC hQ hK dX6_wants_27
  · replace hf := qa_if_f h hf
    refine qi_iload hC 0 rfl dX6_wants_13 ?_
    obtain rfl := Option.some.inj hf
    exact qi_ireti hC hQ hK dX6_wants_15
set_option maxRecDepth 100000 in
set_option maxHeartbeats 4000000 in
theorem t_X6_weeks_93 {X : qaX} {l : Launch} {Y : qaY} {fin : Int32 × qaM} (hC : QC X l Y cX6_weeks RX6 7 6) (hQ : QRi X Y (some .int) fin.2 fin.1) {m : qaM} {v2 : Int32} {v4 : Int32} {v5 : Int32} {z : (Int32 × qaM)} (hf : b_X6_weeks_93 m v2 v4 v5 = some z) (hK : (qa_eq fin) z) : QG X Y 7 m 93 [(2, .int v2), (4, .int v4), (5, .int v5)] [] := by
  unfold b_X6_weeks_93 at hf
  refine qi_iload_n hC 0 rfl rfl dX6_weeks_93 ?_
  refine qi_if_ne (tgt := 102) hC (by decide) dX6_weeks_94 (fun h => ?_) (fun h => ?_)
  · replace hf := qa_if_f h hf
    refine qi_iload hC 2 rfl dX6_weeks_102 ?_
    obtain rfl := Option.some.inj hf
    exact qi_ireti hC hQ hK dX6_weeks_104
  · replace hf := qa_if_t h hf
    refine qi_iload hC 1 rfl dX6_weeks_97 ?_
    refine qi_goto (tgt := 104) hC (by decide) dX6_weeks_99 ?_
    obtain rfl := Option.some.inj hf
    exact qi_ireti hC hQ hK dX6_weeks_104
set_option maxRecDepth 100000 in
set_option maxHeartbeats 4000000 in
theorem t_X6_weeks_79 {X : qaX} {l : Launch} {Y : qaY} {fin : Int32 × qaM} (hC : QC X l Y cX6_weeks RX6 7 6) (hQ : QRi X Y (some .int) fin.2 fin.1) {m : qaM} {v1 : Int32} {v2 : Int32} {v4 : Int32} {v5 : Int32} {v6 : Int32} {z : ((qaM × Int32 × Int32 × Int32) ⊕ (Int32 × qaM))} (hf : b_X6_weeks_79 m v1 v2 v4 v5 v6 = some z) (hK : (qa_K (fun s => QG X Y 7 s.1 45 [(0, .ref (Y.2.2.1 0)), (1, .int v1), (2, .int v2), (4, .int s.2.1), (5, .int s.2.2.1), (6, .int s.2.2.2)] []) (qa_eq fin)) z) : QG X Y 7 m 79 [(0, .ref (Y.2.2.1 0)), (1, .int v1), (2, .int v2), (4, .int v4), (5, .int v5), (6, .int v6)] [] := by
  unfold b_X6_weeks_79 at hf
  refine qi_aload_n hC 0 rfl rfl dX6_weeks_79 ?_
  refine qi_getr hC kf_X6_35 sh_0 rfl dX6_weeks_80 ?_
  refine qi_iconst hC dX6_weeks_83 kn_iconst_1 ?_
  obtain ⟨q4, hq4, hf⟩ := Option.bind_eq_some_iff.mp hf
  refine qi_callVv hC (as := [.int (1 : Int32)]) (c_X0_livesWeeks _ _ hou_20 _ _ _ hq4) kl_X6_192 sh_20 kc_X0_livesWeeks rfl rfl (by decide) (by decide) (Nat.le_of_ble_eq_true rfl) dX6_weeks_84 ?_
  obtain ⟨x5, ex5, hf⟩ := qa_lt_e hf
  refine qi_iinc hC (n := 1) (v := x5) 5 rfl ((congrArg (fun q => v6 + q) kn_iconst_1).trans ex5.symm) (by decide) rfl dX6_weeks_87 ?_
  refine qi_goto (tgt := 45) hC (by decide) dX6_weeks_90 ?_
  obtain rfl := Option.some.inj hf
  refine qi_sub hC [1, 2, 3, 4, 5, 0] rfl ?_
  exact hK
set_option maxRecDepth 100000 in
set_option maxHeartbeats 4000000 in
theorem t_X6_weeks_74 {X : qaX} {l : Launch} {Y : qaY} {fin : Int32 × qaM} (hC : QC X l Y cX6_weeks RX6 7 6) (hQ : QRi X Y (some .int) fin.2 fin.1) {m : qaM} {v1 : Int32} {v2 : Int32} {v5 : Int32} {v6 : Int32} {s0 : Int32} {z : ((qaM × Int32 × Int32 × Int32) ⊕ (Int32 × qaM))} (hf : b_X6_weeks_74 m v1 v2 v5 v6 s0 = some z) (hK : (qa_K (fun s => QG X Y 7 s.1 45 [(0, .ref (Y.2.2.1 0)), (1, .int v1), (2, .int v2), (4, .int s.2.1), (5, .int s.2.2.1), (6, .int s.2.2.2)] []) (qa_eq fin)) z) : QG X Y 7 m 74 [(0, .ref (Y.2.2.1 0)), (1, .int v1), (2, .int v2), (5, .int v5), (6, .int v6)] [.int s0] := by
  unfold b_X6_weeks_74 at hf
  refine qi_istore hC (by decide) rfl dX6_weeks_74 ?_
  obtain ⟨x6, ex6, hf⟩ := qa_lt_e hf
  refine qi_iinc hC (n := 1) (v := x6) 4 rfl ((congrArg (fun q => v5 + q) kn_iconst_1).trans ex6.symm) (by decide) rfl dX6_weeks_76 ?_
  refine qi_sub hC [2, 3, 4, 1, 0, 5] rfl ?_
  exact t_X6_weeks_79 hC hQ hf hK
set_option maxRecDepth 100000 in
set_option maxHeartbeats 4000000 in
theorem t_X6_weeks_45 {X : qaX} {l : Launch} {Y : qaY} {fin : Int32 × qaM} (hC : QC X l Y cX6_weeks RX6 7 6) (hQ : QRi X Y (some .int) fin.2 fin.1) {m : qaM} {v1 : Int32} {v2 : Int32} {v4 : Int32} {v5 : Int32} {v6 : Int32} {z : ((qaM × Int32 × Int32 × Int32) ⊕ (Int32 × qaM))} (hf : b_X6_weeks_45 m v1 v2 v4 v5 v6 = some z) (hK : (qa_K (fun s => QG X Y 7 s.1 45 [(0, .ref (Y.2.2.1 0)), (1, .int v1), (2, .int v2), (4, .int s.2.1), (5, .int s.2.2.1), (6, .int s.2.2.2)] []) (qa_eq fin)) z) : QG X Y 7 m 45 [(0, .ref (Y.2.2.1 0)), (1, .int v1), (2, .int v2), (4, .int v4), (5, .int v5), (6, .int v6)] [] := by
  unfold b_X6_weeks_45 at hf
  refine qi_iload hC 5 rfl dX6_weeks_45 ?_
  refine qi_bipush hC dX6_weeks_47 kn_bipush_60 ?_
  refine qi_icmp_gt (tgt := 93) hC (by decide) dX6_weeks_49 (fun h => ?_) (fun h => ?_)
  · replace hf := qa_if_t h hf
    obtain ⟨z, rfl, hg⟩ := qa_inr_e hf; have hf := hg
    refine qi_sub hC [2, 3, 4] rfl ?_
    exact t_X6_weeks_93 hC hQ hf hK
  · replace hf := qa_if_f h hf
    refine qi_aload_n hC 0 rfl rfl dX6_weeks_52 ?_
    refine qi_iload_n hC 1 rfl rfl dX6_weeks_53 ?_
    obtain ⟨q3, hq3, hf⟩ := Option.bind_eq_some_iff.mp hf
    refine qi_callVi hC (as := [.int v1]) (c_X6_firstOtherwise _ _ _ _ _ hq3) kl_X6_205 sh_0 kc_X6_firstOtherwise rfl rfl (by decide) (by decide) (Nat.le_of_ble_eq_true rfl) dX6_weeks_54 ?_
    refine qi_iconst hC dX6_weeks_57 kn_iconst_m1 ?_
    refine qi_icmp_ne (tgt := 79) hC (by decide) dX6_weeks_58 (fun h => ?_) (fun h => ?_)
    · replace hf := qa_if_f h hf
      exact t_X6_weeks_79 hC hQ hf hK
    · replace hf := qa_if_t h hf
      refine qi_iload hC 3 rfl dX6_weeks_61 ?_
      refine qi_iconst hC dX6_weeks_63 kn_iconst_m1 ?_
      refine qi_icmp_ne (tgt := 72) hC (by decide) dX6_weeks_64 (fun h => ?_) (fun h => ?_)
      · replace hf := qa_if_f h hf
        refine qi_iload hC 3 rfl dX6_weeks_72 ?_
        refine qi_sub hC [0, 1, 2, 4, 5] rfl ?_
        exact t_X6_weeks_74 hC hQ hf hK
      · replace hf := qa_if_t h hf
        refine qi_iload hC 5 rfl dX6_weeks_67 ?_
        refine qi_goto (tgt := 74) hC (by decide) dX6_weeks_69 ?_
        refine qi_sub hC [0, 1, 2, 4, 5] rfl ?_
        exact t_X6_weeks_74 hC hQ hf hK
set_option maxRecDepth 100000 in
set_option maxHeartbeats 4000000 in
theorem tn_X6_weeks_45 {X : qaX} {l : Launch} {Y : qaY} {fin : Int32 × qaM} (hC : QC X l Y cX6_weeks RX6 7 6) (hQ : QRi X Y (some .int) fin.2 fin.1) {v1 : Int32} {v2 : Int32} {z : (Int32 × qaM)} (hK : (qa_eq fin) z) : ∀ (n : Nat) (s : qaM × Int32 × Int32 × Int32), qa_lp (fun s => b_X6_weeks_45 s.1 v1 v2 s.2.1 s.2.2.1 s.2.2.2) n s = some z → QG X Y 7 s.1 45 [(0, .ref (Y.2.2.1 0)), (1, .int v1), (2, .int v2), (4, .int s.2.1), (5, .int s.2.2.1), (6, .int s.2.2.2)] [] := by
  intro n
  induction n with
  | zero => intro s hf; cases hf
  | succ n ih =>
    intro s hf
    obtain ⟨y, hy, hf⟩ := qa_lp_e hf
    refine t_X6_weeks_45 hC hQ hy ?_
    rcases hf with ⟨s', rfl, hf⟩ | rfl
    · exact ih s' hf
    · exact hK
set_option maxRecDepth 100000 in
set_option maxHeartbeats 4000000 in
theorem tl_X6_weeks_45 {X : qaX} {l : Launch} {Y : qaY} {fin : Int32 × qaM} (hC : QC X l Y cX6_weeks RX6 7 6) (hQ : QRi X Y (some .int) fin.2 fin.1) {m : qaM} {v1 : Int32} {v2 : Int32} {v4 : Int32} {v5 : Int32} {v6 : Int32} {z : (Int32 × qaM)} (hf : lp_X6_weeks_45 m v1 v2 v4 v5 v6 = some z) (hK : (qa_eq fin) z) : QG X Y 7 m 45 [(0, .ref (Y.2.2.1 0)), (1, .int v1), (2, .int v2), (4, .int v4), (5, .int v5), (6, .int v6)] [] :=
  tn_X6_weeks_45 hC hQ hK qa_F (m, v4, v5, v6) hf
set_option maxRecDepth 100000 in
set_option maxHeartbeats 4000000 in
theorem c_X6_weeks (l : Launch) (Y : qaY) (m : qaM) (v1 : Int32) (v2 : Int32) (q : Int32 × qaM) (hf : f_X6_weeks m v1 v2 = some q) : qaMi l Y yX6_weeks cX6_weeks 7 (some .int) 6 [.ref (Y.2.2.1 0), .int v1, .int v2] m q.2 q.1 := by
  refine qa_enti (by decide +kernel) (Nat.le_of_ble_eq_true rfl) fun X hC hQ => ?_
  have hK : qa_eq q q := rfl
  unfold f_X6_weeks at hf
  refine qi_aload_n hC 0 rfl rfl dX6_weeks_0 ?_
  refine qi_iload_n hC 1 rfl rfl dX6_weeks_1 ?_
  refine qi_iconst hC dX6_weeks_2 kn_iconst_0 ?_
  obtain ⟨q1, hq1, hf⟩ := Option.bind_eq_some_iff.mp hf
  refine qi_callVi hC (as := [.int v1, .int (0 : Int32)]) (c_X6_refusalOfTelling _ _ _ _ _ _ hq1) kl_X6_202 sh_0 kc_X6_refusalOfTelling rfl rfl (by decide) (by decide) (Nat.le_of_ble_eq_true rfl) dX6_weeks_3 ?_
  refine qi_istore_n hC rfl (by decide) rfl dX6_weeks_6 ?_
  refine qi_iload_n hC 0 rfl rfl dX6_weeks_7 ?_
  refine qi_if_eq (tgt := 13) hC (by decide) dX6_weeks_8 (fun h => ?_) (fun h => ?_)
  · replace hf := qa_if_t h hf
    refine qi_iload_n hC 3 rfl rfl dX6_weeks_13 ?_
    refine qi_if_lt (tgt := 22) hC (by decide) dX6_weeks_14 (fun h => ?_) (fun h => ?_)
    · replace hf := qa_if_t h hf
      refine qi_bipush hC dX6_weeks_22 kn_bipush_m7 ?_
      obtain rfl := Option.some.inj hf
      exact qi_ireti hC hQ hK dX6_weeks_24
    · replace hf := qa_if_f h hf
      refine qi_iload_n hC 3 rfl rfl dX6_weeks_17 ?_
      refine qi_iconst hC dX6_weeks_18 kn_iconst_1 ?_
      refine qi_icmp_le (tgt := 25) hC (by decide) dX6_weeks_19 (fun h => ?_) (fun h => ?_)
      · replace hf := qa_if_t h hf
        refine qi_iconst hC dX6_weeks_25 kn_iconst_m1 ?_
        refine qi_istore hC (by decide) rfl dX6_weeks_26 ?_
        refine qi_iconst hC dX6_weeks_28 kn_iconst_0 ?_
        refine qi_istore hC (by decide) rfl dX6_weeks_29 ?_
        refine qi_aload_n hC 3 rfl rfl dX6_weeks_31 ?_
        refine qi_getr hC kf_X6_35 sh_0 rfl dX6_weeks_32 ?_
        refine qi_aload_n hC 3 rfl rfl dX6_weeks_35 ?_
        refine qi_getr hC kf_X6_28 sh_0 rfl dX6_weeks_36 ?_
        obtain ⟨q2, hq2, hf⟩ := Option.bind_eq_some_iff.mp hf
        refine qi_callVv hC (as := [.ref (Y.2.2.1 8)]) (c_X0_beginsAs _ _ hou_20 hou_8 _ _ hq2) kl_X6_188 sh_20 kc_X0_beginsAs rfl rfl (by decide) (by decide) (Nat.le_of_ble_eq_true rfl) dX6_weeks_39 ?_
        refine qi_iconst hC dX6_weeks_42 kn_iconst_0 ?_
        refine qi_istore hC (by decide) rfl dX6_weeks_43 ?_
        refine qi_sub hC [4, 5, 6, 2, 1, 0] rfl ?_
        exact tl_X6_weeks_45 hC hQ hf hK
      · replace hf := qa_if_f h hf
        refine qi_bipush hC dX6_weeks_22 kn_bipush_m7 ?_
        obtain rfl := Option.some.inj hf
        exact qi_ireti hC hQ hK dX6_weeks_24
  · replace hf := qa_if_f h hf
    refine qi_iload_n hC 0 rfl rfl dX6_weeks_11 ?_
    obtain rfl := Option.some.inj hf
    exact qi_ireti hC hQ hK dX6_weeks_12
set_option maxRecDepth 100000 in
set_option maxHeartbeats 4000000 in
theorem t_X6_laws_19 {X : qaX} {l : Launch} {Y : qaY} {fin : Int32 × qaM} (hC : QC X l Y cX6_laws RX6 6 6) (hQ : QRi X Y (some .int) fin.2 fin.1) {m : qaM} {v1 : Int32} {v2 : Int32} {v4 : Int32} {v5 : Int32} {z : ((qaM × Int32 × Int32) ⊕ (Int32 × qaM))} (hf : b_X6_laws_19 m v1 v2 v4 v5 = some z) (hK : (qa_K (fun s => QG X Y 6 s.1 19 [(0, .ref (Y.2.2.1 0)), (1, .int v1), (2, .int v2), (4, .int s.2.1), (5, .int s.2.2)] []) (qa_eq fin)) z) : QG X Y 6 m 19 [(0, .ref (Y.2.2.1 0)), (1, .int v1), (2, .int v2), (4, .int v4), (5, .int v5)] [] := by
  unfold b_X6_laws_19 at hf
  refine qi_iload hC 4 rfl dX6_laws_19 ?_
  refine qi_aload_n hC 0 rfl rfl dX6_laws_21 ?_
  refine qi_getr hC kf_X6_10 sh_0 rfl dX6_laws_22 ?_
  refine qi_geti hC kf_X6_78 sh_1 rfl dX6_laws_25 ?_
  refine qi_icmp_ge (tgt := 77) hC (by decide) dX6_laws_28 (fun h => ?_) (fun h => ?_)
  · replace hf := qa_if_t h hf
    refine qi_iload hC 3 rfl dX6_laws_77 ?_
    obtain ⟨z, rfl, hg⟩ := qa_inr_e hf; have hf := hg
    obtain rfl := Option.some.inj hf
    exact qi_ireti hC hQ hK dX6_laws_79
  · replace hf := qa_if_f h hf
    refine qi_aload_n hC 0 rfl rfl dX6_laws_31 ?_
    refine qi_getr hC kf_X6_35 sh_0 rfl dX6_laws_32 ?_
    refine qi_aload_n hC 0 rfl rfl dX6_laws_35 ?_
    refine qi_getr hC kf_X6_28 sh_0 rfl dX6_laws_36 ?_
    obtain ⟨q2, hq2, hf⟩ := Option.bind_eq_some_iff.mp hf
    refine qi_callVv hC (as := [.ref (Y.2.2.1 8)]) (c_X0_beginsAs _ _ hou_20 hou_8 _ _ hq2) kl_X6_188 sh_20 kc_X0_beginsAs rfl rfl (by decide) (by decide) (Nat.le_of_ble_eq_true rfl) dX6_laws_39 ?_
    refine qi_aload_n hC 0 rfl rfl dX6_laws_42 ?_
    refine qi_getr hC kf_X6_35 sh_0 rfl dX6_laws_43 ?_
    refine qi_iload hC 4 rfl dX6_laws_46 ?_
    obtain ⟨m3, em3, hf⟩ := qa_lt_e hf
    refine qi_puti hC em3 kp_X6_79 sh_20 rfl rfl rfl dX6_laws_48 ?_
    refine qi_aload_n hC 0 rfl rfl dX6_laws_51 ?_
    refine qi_getr hC kf_X6_35 sh_0 rfl dX6_laws_52 ?_
    refine qi_iload_n hC 2 rfl rfl dX6_laws_55 ?_
    obtain ⟨q4, hq4, hf⟩ := Option.bind_eq_some_iff.mp hf
    refine qi_callVv hC (as := [.int v2]) (c_X0_livesWeeks _ _ hou_20 _ _ _ hq4) kl_X6_192 sh_20 kc_X0_livesWeeks rfl rfl (by decide) (by decide) (Nat.le_of_ble_eq_true rfl) dX6_laws_56 ?_
    refine qi_iload hC 3 rfl dX6_laws_59 ?_
    refine qi_aload_n hC 0 rfl rfl dX6_laws_61 ?_
    refine qi_iload_n hC 1 rfl rfl dX6_laws_62 ?_
    refine qi_iload hC 4 rfl dX6_laws_63 ?_
    obtain ⟨q5, hq5, hf⟩ := Option.bind_eq_some_iff.mp hf
    refine qi_callVi hC (as := [.int v1, .int v5]) (c_X6_bitIfTold _ _ _ _ _ _ hq5) kl_X6_208 sh_0 kc_X6_bitIfTold rfl rfl (by decide) (by decide) (Nat.le_of_ble_eq_true rfl) dX6_laws_65 ?_
    refine qi_ior hC dX6_laws_68 ?_
    obtain ⟨x6, ex6, hf⟩ := qa_lt_e hf
    refine qi_nmi hC ex6 ?_
    refine qi_istore hC (by decide) rfl dX6_laws_69 ?_
    obtain ⟨x7, ex7, hf⟩ := qa_lt_e hf
    refine qi_iinc hC (n := 1) (v := x7) 4 rfl ((congrArg (fun q => v5 + q) kn_iconst_1).trans ex7.symm) (by decide) rfl dX6_laws_71 ?_
    refine qi_goto (tgt := 19) hC (by decide) dX6_laws_74 ?_
    obtain rfl := Option.some.inj hf
    refine qi_sub hC [2, 3, 4, 1, 0] rfl ?_
    exact hK
set_option maxRecDepth 100000 in
set_option maxHeartbeats 4000000 in
theorem tn_X6_laws_19 {X : qaX} {l : Launch} {Y : qaY} {fin : Int32 × qaM} (hC : QC X l Y cX6_laws RX6 6 6) (hQ : QRi X Y (some .int) fin.2 fin.1) {v1 : Int32} {v2 : Int32} {z : (Int32 × qaM)} (hK : (qa_eq fin) z) : ∀ (n : Nat) (s : qaM × Int32 × Int32), qa_lp (fun s => b_X6_laws_19 s.1 v1 v2 s.2.1 s.2.2) n s = some z → QG X Y 6 s.1 19 [(0, .ref (Y.2.2.1 0)), (1, .int v1), (2, .int v2), (4, .int s.2.1), (5, .int s.2.2)] [] := by
  intro n
  induction n with
  | zero => intro s hf; cases hf
  | succ n ih =>
    intro s hf
    obtain ⟨y, hy, hf⟩ := qa_lp_e hf
    refine t_X6_laws_19 hC hQ hy ?_
    rcases hf with ⟨s', rfl, hf⟩ | rfl
    · exact ih s' hf
    · exact hK
set_option maxRecDepth 100000 in
set_option maxHeartbeats 4000000 in
theorem tl_X6_laws_19 {X : qaX} {l : Launch} {Y : qaY} {fin : Int32 × qaM} (hC : QC X l Y cX6_laws RX6 6 6) (hQ : QRi X Y (some .int) fin.2 fin.1) {m : qaM} {v1 : Int32} {v2 : Int32} {v4 : Int32} {v5 : Int32} {z : (Int32 × qaM)} (hf : lp_X6_laws_19 m v1 v2 v4 v5 = some z) (hK : (qa_eq fin) z) : QG X Y 6 m 19 [(0, .ref (Y.2.2.1 0)), (1, .int v1), (2, .int v2), (4, .int v4), (5, .int v5)] [] :=
  tn_X6_laws_19 hC hQ hK qa_F (m, v4, v5) hf
set_option maxRecDepth 100000 in
set_option maxHeartbeats 4000000 in
theorem c_X6_laws (l : Launch) (Y : qaY) (m : qaM) (v1 : Int32) (v2 : Int32) (q : Int32 × qaM) (hf : f_X6_laws m v1 v2 = some q) : qaMi l Y yX6_laws cX6_laws 6 (some .int) 6 [.ref (Y.2.2.1 0), .int v1, .int v2] m q.2 q.1 := by
  refine qa_enti (by decide +kernel) (Nat.le_of_ble_eq_true rfl) fun X hC hQ => ?_
  have hK : qa_eq q q := rfl
  unfold f_X6_laws at hf
  refine qi_aload_n hC 0 rfl rfl dX6_laws_0 ?_
  refine qi_iload_n hC 1 rfl rfl dX6_laws_1 ?_
  refine qi_iload_n hC 2 rfl rfl dX6_laws_2 ?_
  obtain ⟨q1, hq1, hf⟩ := Option.bind_eq_some_iff.mp hf
  refine qi_callVi hC (as := [.int v1, .int v2]) (c_X6_refusalOfTelling _ _ _ _ _ _ hq1) kl_X6_202 sh_0 kc_X6_refusalOfTelling rfl rfl (by decide) (by decide) (Nat.le_of_ble_eq_true rfl) dX6_laws_3 ?_
  refine qi_istore_n hC rfl (by decide) rfl dX6_laws_6 ?_
  refine qi_iload_n hC 0 rfl rfl dX6_laws_7 ?_
  refine qi_if_eq (tgt := 13) hC (by decide) dX6_laws_8 (fun h => ?_) (fun h => ?_)
  · replace hf := qa_if_t h hf
    refine qi_iconst hC dX6_laws_13 kn_iconst_0 ?_
    refine qi_istore hC (by decide) rfl dX6_laws_14 ?_
    refine qi_iconst hC dX6_laws_16 kn_iconst_0 ?_
    refine qi_istore hC (by decide) rfl dX6_laws_17 ?_
    refine qi_sub hC [3, 4, 5, 1, 0] rfl ?_
    exact tl_X6_laws_19 hC hQ hf hK
  · replace hf := qa_if_f h hf
    refine qi_iload_n hC 0 rfl rfl dX6_laws_11 ?_
    obtain rfl := Option.some.inj hf
    exact qi_ireti hC hQ hK dX6_laws_12
set_option maxRecDepth 100000 in
set_option maxHeartbeats 4000000 in
theorem t_X6_film_84 {X : qaX} {l : Launch} {Y : qaY} {fin : Int32 × qaM} (hC : QC X l Y cX6_film RX6 4 7) (hQ : QRi X Y (some .int) fin.2 fin.1) {m : qaM} {z : (Int32 × qaM)} (hf : b_X6_film_84 m = some z) (hK : (qa_eq fin) z) : QG X Y 4 m 84 [(0, .ref (Y.2.2.1 0))] [] := by
  unfold b_X6_film_84 at hf
  refine qi_aload_n hC 0 rfl rfl dX6_film_84 ?_
  refine qi_getr hC kf_X6_35 sh_0 rfl dX6_film_85 ?_
  refine qi_getr hC kf_X6_52 sh_20 rfl dX6_film_88 ?_
  refine qi_geti hC kf_X6_56 sh_21 rfl dX6_film_91 ?_
  obtain rfl := Option.some.inj hf
  exact qi_ireti hC hQ hK dX6_film_94
set_option maxRecDepth 100000 in
set_option maxHeartbeats 4000000 in
theorem t_X6_film_43 {X : qaX} {l : Launch} {Y : qaY} {fin : Int32 × qaM} (hC : QC X l Y cX6_film RX6 4 7) (hQ : QRi X Y (some .int) fin.2 fin.1) {m : qaM} {v1 : Int32} {v3 : Int32} {z : ((qaM × Int32) ⊕ (Int32 × qaM))} (hf : b_X6_film_43 m v1 v3 = some z) (hK : (qa_K (fun s => QG X Y 4 s.1 43 [(0, .ref (Y.2.2.1 0)), (1, .int v1), (3, .int s.2)] []) (qa_eq fin)) z) : QG X Y 4 m 43 [(0, .ref (Y.2.2.1 0)), (1, .int v1), (3, .int v3)] [] := by
  unfold b_X6_film_43 at hf
  refine qi_iload_n hC 2 rfl rfl dX6_film_43 ?_
  refine qi_aload_n hC 0 rfl rfl dX6_film_44 ?_
  refine qi_getr hC kf_X6_35 sh_0 rfl dX6_film_45 ?_
  refine qi_getr hC kf_X6_52 sh_20 rfl dX6_film_48 ?_
  refine qi_geti hC kf_X6_56 sh_21 rfl dX6_film_51 ?_
  refine qi_icmp_ge (tgt := 84) hC (by decide) dX6_film_54 (fun h => ?_) (fun h => ?_)
  · replace hf := qa_if_t h hf
    obtain ⟨z, rfl, hg⟩ := qa_inr_e hf; have hf := hg
    refine qi_sub hC [0] rfl ?_
    exact t_X6_film_84 hC hQ hf hK
  · replace hf := qa_if_f h hf
    refine qi_aload_n hC 0 rfl rfl dX6_film_57 ?_
    refine qi_getr hC kf_X6_44 sh_0 rfl dX6_film_58 ?_
    refine qi_iload_n hC 1 rfl rfl dX6_film_61 ?_
    refine qi_iload_n hC 2 rfl rfl dX6_film_62 ?_
    refine qi_aload_n hC 0 rfl rfl dX6_film_63 ?_
    refine qi_getr hC kf_X6_35 sh_0 rfl dX6_film_64 ?_
    refine qi_getr hC kf_X6_52 sh_20 rfl dX6_film_67 ?_
    refine qi_iload_n hC 2 rfl rfl dX6_film_70 ?_
    refine qi_iconst hC dX6_film_71 kn_iconst_2 ?_
    obtain ⟨q5, hq5, hf⟩ := Option.bind_eq_some_iff.mp hf
    refine qi_callVi hC (as := [.int v3, .int (2 : Int32)]) (c_X1_fact _ _ hou_20.2.1 _ _ _ _ hq5) kl_X6_130 sh_21 kc_X1_fact rfl rfl (by decide) (by decide) (Nat.le_of_ble_eq_true rfl) dX6_film_72 ?_
    obtain ⟨q6, hq6, hf⟩ := Option.bind_eq_some_iff.mp hf
    refine qi_callVv hC (as := [.int v1, .int v3, .int q5]) (c_X3_writes _ _ _ _ _ _ _ hq6) kl_X6_217 sh_32 kc_X3_writes rfl rfl (by decide) (by decide) (Nat.le_of_ble_eq_true rfl) dX6_film_75 ?_
    obtain ⟨x7, ex7, hf⟩ := qa_lt_e hf
    refine qi_iinc hC (n := 1) (v := x7) 2 rfl ((congrArg (fun q => v3 + q) kn_iconst_1).trans ex7.symm) (by decide) rfl dX6_film_78 ?_
    refine qi_goto (tgt := 43) hC (by decide) dX6_film_81 ?_
    obtain rfl := Option.some.inj hf
    refine qi_sub hC [1, 2, 0] rfl ?_
    exact hK
set_option maxRecDepth 100000 in
set_option maxHeartbeats 4000000 in
theorem tn_X6_film_43 {X : qaX} {l : Launch} {Y : qaY} {fin : Int32 × qaM} (hC : QC X l Y cX6_film RX6 4 7) (hQ : QRi X Y (some .int) fin.2 fin.1) {v1 : Int32} {z : (Int32 × qaM)} (hK : (qa_eq fin) z) : ∀ (n : Nat) (s : qaM × Int32), qa_lp (fun s => b_X6_film_43 s.1 v1 s.2) n s = some z → QG X Y 4 s.1 43 [(0, .ref (Y.2.2.1 0)), (1, .int v1), (3, .int s.2)] [] := by
  intro n
  induction n with
  | zero => intro s hf; cases hf
  | succ n ih =>
    intro s hf
    obtain ⟨y, hy, hf⟩ := qa_lp_e hf
    refine t_X6_film_43 hC hQ hy ?_
    rcases hf with ⟨s', rfl, hf⟩ | rfl
    · exact ih s' hf
    · exact hK
set_option maxRecDepth 100000 in
set_option maxHeartbeats 4000000 in
theorem tl_X6_film_43 {X : qaX} {l : Launch} {Y : qaY} {fin : Int32 × qaM} (hC : QC X l Y cX6_film RX6 4 7) (hQ : QRi X Y (some .int) fin.2 fin.1) {m : qaM} {v1 : Int32} {v3 : Int32} {z : (Int32 × qaM)} (hf : lp_X6_film_43 m v1 v3 = some z) (hK : (qa_eq fin) z) : QG X Y 4 m 43 [(0, .ref (Y.2.2.1 0)), (1, .int v1), (3, .int v3)] [] :=
  tn_X6_film_43 hC hQ hK qa_F (m, v3) hf
set_option maxRecDepth 100000 in
set_option maxHeartbeats 4000000 in
theorem c_X6_film (l : Launch) (Y : qaY) (m : qaM) (v1 : Int32) (v2 : Int32) (q : Int32 × qaM) (hf : f_X6_film m v1 v2 = some q) : qaMi l Y yX6_film cX6_film 4 (some .int) 7 [.ref (Y.2.2.1 0), .int v1, .int v2] m q.2 q.1 := by
  refine qa_enti (by decide +kernel) (Nat.le_of_ble_eq_true rfl) fun X hC hQ => ?_
  have hK : qa_eq q q := rfl
  unfold f_X6_film at hf
  refine qi_iload_n hC 1 rfl rfl dX6_film_0 ?_
  obtain ⟨q1, hq1, hf⟩ := Option.bind_eq_some_iff.mp hf
  refine qi_callSi hC (as := [.int v1]) (c_X6_isSheet _ _ _ _ _ hq1) kl_X6_211 kc_X6_isSheet rfl rfl (by decide) (by decide) (Nat.le_of_ble_eq_true rfl) dX6_film_1 ?_
  refine qi_if_eq (tgt := 14) hC (by decide) dX6_film_4 (fun h => ?_) (fun h => ?_)
  · replace hf := qa_if_t h hf
    refine qi_bipush hC dX6_film_14 kn_bipush_m2 ?_
    obtain rfl := Option.some.inj hf
    exact qi_ireti hC hQ hK dX6_film_16
  · replace hf := qa_if_f h hf
    refine qi_iload_n hC 2 rfl rfl dX6_film_7 ?_
    obtain ⟨q2, hq2, hf⟩ := Option.bind_eq_some_iff.mp hf
    refine qi_callSi hC (as := [.int v2]) (c_X6_isWeeks _ _ _ _ _ hq2) kl_X6_161 kc_X6_isWeeks rfl rfl (by decide) (by decide) (Nat.le_of_ble_eq_true rfl) dX6_film_8 ?_
    refine qi_if_ne (tgt := 17) hC (by decide) dX6_film_11 (fun h => ?_) (fun h => ?_)
    · replace hf := qa_if_f h hf
      refine qi_aload_n hC 0 rfl rfl dX6_film_17 ?_
      refine qi_iload_n hC 2 rfl rfl dX6_film_18 ?_
      obtain ⟨q3, hq3, hf⟩ := Option.bind_eq_some_iff.mp hf
      refine qi_callVv hC (as := [.int v2]) (c_X6_thinks _ _ _ _ _ hq3) kl_X6_164 sh_0 kc_X6_thinks rfl rfl (by decide) (by decide) (Nat.le_of_ble_eq_true rfl) dX6_film_19 ?_
      refine qi_aload_n hC 0 rfl rfl dX6_film_22 ?_
      refine qi_getr hC kf_X6_44 sh_0 rfl dX6_film_23 ?_
      refine qi_iload_n hC 1 rfl rfl dX6_film_26 ?_
      refine qi_iconst hC dX6_film_27 kn_iconst_1 ?_
      refine qi_aload_n hC 0 rfl rfl dX6_film_28 ?_
      refine qi_getr hC kf_X6_35 sh_0 rfl dX6_film_29 ?_
      refine qi_getr hC kf_X6_52 sh_20 rfl dX6_film_32 ?_
      refine qi_geti hC kf_X6_56 sh_21 rfl dX6_film_35 ?_
      obtain ⟨q4, hq4, hf⟩ := Option.bind_eq_some_iff.mp hf
      refine qi_callVv hC (as := [.int v1, .int (1 : Int32), .int (q3 21 0)]) (c_X3_makes _ _ _ _ _ _ _ hq4) kl_X6_214 sh_32 kc_X3_makes rfl rfl (by decide) (by decide) (Nat.le_of_ble_eq_true rfl) dX6_film_38 ?_
      refine qi_iconst hC dX6_film_41 kn_iconst_0 ?_
      refine qi_istore_n hC rfl (by decide) rfl dX6_film_42 ?_
      refine qi_sub hC [1, 2, 0] rfl ?_
      exact tl_X6_film_43 hC hQ hf hK
    · replace hf := qa_if_t h hf
      refine qi_bipush hC dX6_film_14 kn_bipush_m2 ?_
      obtain rfl := Option.some.inj hf
      exact qi_ireti hC hQ hK dX6_film_16
set_option maxRecDepth 100000 in
set_option maxHeartbeats 4000000 in
theorem c_X6_drawn (l : Launch) (Y : qaY) (m : qaM) (v1 : Int32) (v2 : Int32) (v3 : Int32) (q : Int32 × qaM) (hf : f_X6_drawn m v1 v2 v3 = some q) : qaMi l Y yX6_drawn cX6_drawn 4 (some .int) 6 [.ref (Y.2.2.1 0), .int v1, .int v2, .int v3] m q.2 q.1 := by
  refine qa_enti (by decide +kernel) (Nat.le_of_ble_eq_true rfl) fun X hC hQ => ?_
  have hK : qa_eq q q := rfl
  unfold f_X6_drawn at hf
  refine qi_iload_n hC 1 rfl rfl dX6_drawn_0 ?_
  obtain ⟨q1, hq1, hf⟩ := Option.bind_eq_some_iff.mp hf
  refine qi_callSi hC (as := [.int v1]) (c_X6_isSeed _ _ _ _ _ hq1) kl_X6_220 kc_X6_isSeed rfl rfl (by decide) (by decide) (Nat.le_of_ble_eq_true rfl) dX6_drawn_1 ?_
  refine qi_if_eq (tgt := 35) hC (by decide) dX6_drawn_4 (fun h => ?_) (fun h => ?_)
  · replace hf := qa_if_t h hf
    refine qi_bipush hC dX6_drawn_35 kn_bipush_m2 ?_
    obtain rfl := Option.some.inj hf
    exact qi_ireti hC hQ hK dX6_drawn_37
  · replace hf := qa_if_f h hf
    refine qi_iload_n hC 2 rfl rfl dX6_drawn_7 ?_
    obtain ⟨q2, hq2, hf⟩ := Option.bind_eq_some_iff.mp hf
    refine qi_callSi hC (as := [.int v2]) (c_X6_isWeeks _ _ _ _ _ hq2) kl_X6_161 kc_X6_isWeeks rfl rfl (by decide) (by decide) (Nat.le_of_ble_eq_true rfl) dX6_drawn_8 ?_
    refine qi_if_eq (tgt := 35) hC (by decide) dX6_drawn_11 (fun h => ?_) (fun h => ?_)
    · replace hf := qa_if_t h hf
      refine qi_bipush hC dX6_drawn_35 kn_bipush_m2 ?_
      obtain rfl := Option.some.inj hf
      exact qi_ireti hC hQ hK dX6_drawn_37
    · replace hf := qa_if_f h hf
      refine qi_iload_n hC 3 rfl rfl dX6_drawn_14 ?_
      refine qi_if_lt (tgt := 35) hC (by decide) dX6_drawn_15 (fun h => ?_) (fun h => ?_)
      · replace hf := qa_if_t h hf
        refine qi_bipush hC dX6_drawn_35 kn_bipush_m2 ?_
        obtain rfl := Option.some.inj hf
        exact qi_ireti hC hQ hK dX6_drawn_37
      · replace hf := qa_if_f h hf
        refine qi_iload_n hC 3 rfl rfl dX6_drawn_18 ?_
        refine qi_bipush hC dX6_drawn_19 kn_bipush_10 ?_
        refine qi_idiv hC (by decide) dX6_drawn_21 ?_
        refine qi_bipush hC dX6_drawn_22 kn_bipush_100 ?_
        refine qi_icmp_gt (tgt := 35) hC (by decide) dX6_drawn_24 (fun h => ?_) (fun h => ?_)
        · replace hf := qa_if_t h hf
          refine qi_bipush hC dX6_drawn_35 kn_bipush_m2 ?_
          obtain rfl := Option.some.inj hf
          exact qi_ireti hC hQ hK dX6_drawn_37
        · replace hf := qa_if_f h hf
          refine qi_iload_n hC 3 rfl rfl dX6_drawn_27 ?_
          refine qi_bipush hC dX6_drawn_28 kn_bipush_10 ?_
          refine qi_irem hC (by decide) dX6_drawn_30 ?_
          refine qi_iconst hC dX6_drawn_31 kn_iconst_3 ?_
          refine qi_icmp_le (tgt := 38) hC (by decide) dX6_drawn_32 (fun h => ?_) (fun h => ?_)
          · replace hf := qa_if_t h hf
            refine qi_aload_n hC 0 rfl rfl dX6_drawn_38 ?_
            refine qi_getr hC kf_X6_35 sh_0 rfl dX6_drawn_39 ?_
            refine qi_aload_n hC 0 rfl rfl dX6_drawn_42 ?_
            refine qi_getr hC kf_X6_28 sh_0 rfl dX6_drawn_43 ?_
            obtain ⟨q3, hq3, hf⟩ := Option.bind_eq_some_iff.mp hf
            refine qi_callVv hC (as := [.ref (Y.2.2.1 8)]) (c_X0_beginsAs _ _ hou_20 hou_8 _ _ hq3) kl_X6_188 sh_20 kc_X0_beginsAs rfl rfl (by decide) (by decide) (Nat.le_of_ble_eq_true rfl) dX6_drawn_46 ?_
            refine qi_aload_n hC 0 rfl rfl dX6_drawn_49 ?_
            refine qi_getr hC kf_X6_35 sh_0 rfl dX6_drawn_50 ?_
            refine qi_iload_n hC 1 rfl rfl dX6_drawn_53 ?_
            refine qi_iload_n hC 2 rfl rfl dX6_drawn_54 ?_
            refine qi_iload_n hC 3 rfl rfl dX6_drawn_55 ?_
            refine qi_bipush hC dX6_drawn_56 kn_bipush_10 ?_
            refine qi_idiv hC (by decide) dX6_drawn_58 ?_
            obtain ⟨q4, hq4, hf⟩ := Option.bind_eq_some_iff.mp hf
            refine qi_callVv hC (as := [.int v1, .int v2, .int (v3 / (10 : Int32))]) (c_X0_livesByLot _ _ hou_20 _ _ _ _ _ hq4) kl_X6_223 sh_20 kc_X0_livesByLot rfl rfl (by decide) (by decide) (Nat.le_of_ble_eq_true rfl) dX6_drawn_59 ?_
            refine qi_iload_n hC 3 rfl rfl dX6_drawn_62 ?_
            refine qi_bipush hC dX6_drawn_63 kn_bipush_10 ?_
            refine qi_irem hC (by decide) dX6_drawn_65 ?_
            obtain ⟨x5, ex5, hf⟩ := qa_lt_e hf
            refine qi_nmi hC ex5 ?_
            by_cases h6 : x5 = (0 : Int32)
            · replace hf := qa_if_t h6 hf
              refine qi_tabIn (tgt := 92) (off := 26) hC dX6_drawn_66 (by rw [h6] <;> decide) (by rw [h6] <;> decide) (by rw [h6] <;> decide) (by decide) ?_
              refine qi_aload_n hC 0 rfl rfl dX6_drawn_92 ?_
              refine qi_getr hC kf_X6_35 sh_0 rfl dX6_drawn_93 ?_
              refine qi_getr hC kf_X6_52 sh_20 rfl dX6_drawn_96 ?_
              obtain ⟨q7, hq7, hf⟩ := Option.bind_eq_some_iff.mp hf
              refine qi_callVi hC (as := []) (c_X1_left _ _ hou_20.2.1 _ _ hq7) kl_X6_167 sh_21 kc_X1_left rfl rfl (by decide) (by decide) (Nat.le_of_ble_eq_true rfl) dX6_drawn_99 ?_
              obtain rfl := Option.some.inj hf
              exact qi_ireti hC hQ hK dX6_drawn_102
            replace hf := qa_if_f h6 hf
            by_cases h8 : x5 = (1 : Int32)
            · replace hf := qa_if_t h8 hf
              refine qi_tabIn (tgt := 103) (off := 37) hC dX6_drawn_66 (by rw [h8] <;> decide) (by rw [h8] <;> decide) (by rw [h8] <;> decide) (by decide) ?_
              refine qi_aload_n hC 0 rfl rfl dX6_drawn_103 ?_
              refine qi_getr hC kf_X6_35 sh_0 rfl dX6_drawn_104 ?_
              refine qi_geti hC kf_X6_173 sh_20 rfl dX6_drawn_107 ?_
              obtain rfl := Option.some.inj hf
              exact qi_ireti hC hQ hK dX6_drawn_110
            replace hf := qa_if_f h8 hf
            by_cases h9 : x5 = (2 : Int32)
            · replace hf := qa_if_t h9 hf
              refine qi_tabIn (tgt := 111) (off := 45) hC dX6_drawn_66 (by rw [h9] <;> decide) (by rw [h9] <;> decide) (by rw [h9] <;> decide) (by decide) ?_
              refine qi_iconst hC dX6_drawn_111 kn_iconst_1 ?_
              refine qi_aload_n hC 0 rfl rfl dX6_drawn_112 ?_
              refine qi_getr hC kf_X6_35 sh_0 rfl dX6_drawn_113 ?_
              refine qi_getr hC kf_X6_52 sh_20 rfl dX6_drawn_116 ?_
              refine qi_geti hC kf_X6_56 sh_21 rfl dX6_drawn_119 ?_
              refine qi_ishl hC dX6_drawn_122 ?_
              refine qi_iconst hC dX6_drawn_123 kn_iconst_1 ?_
              refine qi_isub hC dX6_drawn_124 ?_
              refine qi_aload_n hC 0 rfl rfl dX6_drawn_125 ?_
              refine qi_getr hC kf_X6_35 sh_0 rfl dX6_drawn_126 ?_
              refine qi_geti hC kf_X6_176 sh_20 rfl dX6_drawn_129 ?_
              refine qi_iconst hC dX6_drawn_132 kn_iconst_m1 ?_
              refine qi_ixor hC dX6_drawn_133 ?_
              refine qi_iand hC dX6_drawn_134 ?_
              obtain rfl := Option.some.inj hf
              exact qi_ireti hC hQ hK dX6_drawn_135
            replace hf := qa_if_f h9 hf
            refine qi_tabOut (tgt := 136) hC dX6_drawn_66 (by have nh6 := lv_neT (a := 0) h6 (by decide); have nh8 := lv_neT (a := 1) h8 (by decide); have nh9 := lv_neT (a := 2) h9 (by decide); omega) (by decide) ?_
            refine qi_aload_n hC 0 rfl rfl dX6_drawn_136 ?_
            refine qi_getr hC kf_X6_35 sh_0 rfl dX6_drawn_137 ?_
            refine qi_getr hC kf_X6_52 sh_20 rfl dX6_drawn_140 ?_
            obtain ⟨q10, hq10, hf⟩ := Option.bind_eq_some_iff.mp hf
            refine qi_callVi hC (as := []) (c_X1_wornOfAll _ _ hou_20.2.1 _ _ hq10) kl_X6_226 sh_21 kc_X1_wornOfAll rfl rfl (by decide) (by decide) (Nat.le_of_ble_eq_true rfl) dX6_drawn_143 ?_
            obtain rfl := Option.some.inj hf
            exact qi_ireti hC hQ hK dX6_drawn_146
          · replace hf := qa_if_f h hf
            refine qi_bipush hC dX6_drawn_35 kn_bipush_m2 ?_
            obtain rfl := Option.some.inj hf
            exact qi_ireti hC hQ hK dX6_drawn_37
set_option maxRecDepth 100000 in
set_option maxHeartbeats 4000000 in
theorem t_X6_commonDivisor_2 {X : qaX} {l : Launch} {Y : qaY} {fin : Int32} {m : qaM} (hC : QC X l Y cX6_commonDivisor RX6 4 1) (hQ : QRi X Y (some .int) m fin) {v0 : Int32} {v1 : Int32} {v2 : Int32} {z : ((Int32 × Int32 × Int32) ⊕ (Int32))} (hf : b_X6_commonDivisor_2 m v0 v1 v2 = some z) (hK : (qa_K (fun s => QG X Y 4 m 2 [(0, .int s.1), (1, .int s.2.1), (2, .int s.2.2)] []) (qa_eq fin)) z) : QG X Y 4 m 2 [(0, .int v0), (1, .int v1), (2, .int v2)] [] := by
  unfold b_X6_commonDivisor_2 at hf
  refine qi_iload_n hC 2 rfl rfl dX6_commonDivisor_2 ?_
  refine qi_bipush hC dX6_commonDivisor_3 kn_bipush_64 ?_
  refine qi_icmp_ge (tgt := 26) hC (by decide) dX6_commonDivisor_5 (fun h => ?_) (fun h => ?_)
  · replace hf := qa_if_t h hf
    refine qi_iload_n hC 0 rfl rfl dX6_commonDivisor_26 ?_
    obtain ⟨z, rfl, hg⟩ := qa_inr_e hf; have hf := hg
    obtain rfl := Option.some.inj hf
    exact qi_ireti hC hQ (congrArg (fun w => (w, m)) hK) dX6_commonDivisor_27
  · replace hf := qa_if_f h hf
    refine qi_iload_n hC 1 rfl rfl dX6_commonDivisor_8 ?_
    refine qi_if_eq (tgt := 26) hC (by decide) dX6_commonDivisor_9 (fun h => ?_) (fun h => ?_)
    · replace hf := qa_if_t h hf
      refine qi_iload_n hC 0 rfl rfl dX6_commonDivisor_26 ?_
      obtain ⟨z, rfl, hg⟩ := qa_inr_e hf; have hf := hg
      obtain rfl := Option.some.inj hf
      exact qi_ireti hC hQ (congrArg (fun w => (w, m)) hK) dX6_commonDivisor_27
    · replace hf := qa_if_f h hf
      refine qi_iload_n hC 0 rfl rfl dX6_commonDivisor_12 ?_
      refine qi_iload_n hC 1 rfl rfl dX6_commonDivisor_13 ?_
      obtain ⟨h1, hf⟩ := qa_ck_e hf
      refine qi_irem hC (of_decide_eq_true h1) dX6_commonDivisor_14 ?_
      obtain ⟨x2, ex2, hf⟩ := qa_lt_e hf
      refine qi_nmi hC ex2 ?_
      refine qi_istore_n hC rfl (by decide) rfl dX6_commonDivisor_15 ?_
      refine qi_iload_n hC 2 rfl rfl dX6_commonDivisor_16 ?_
      refine qi_istore_n hC rfl (by decide) rfl dX6_commonDivisor_17 ?_
      refine qi_iload_n hC 1 rfl rfl dX6_commonDivisor_18 ?_
      refine qi_istore_n hC rfl (by decide) rfl dX6_commonDivisor_19 ?_
      obtain ⟨x3, ex3, hf⟩ := qa_lt_e hf
      refine qi_iinc hC (n := 1) (v := x3) 3 rfl ((congrArg (fun q => v2 + q) kn_iconst_1).trans ex3.symm) (by decide) rfl dX6_commonDivisor_20 ?_
      refine qi_goto (tgt := 2) hC (by decide) dX6_commonDivisor_23 ?_
      obtain rfl := Option.some.inj hf
      refine qi_sub hC [2, 1, 0] rfl ?_
      exact hK
set_option maxRecDepth 100000 in
set_option maxHeartbeats 4000000 in
theorem tn_X6_commonDivisor_2 {X : qaX} {l : Launch} {Y : qaY} {fin : Int32} {m : qaM} (hC : QC X l Y cX6_commonDivisor RX6 4 1) (hQ : QRi X Y (some .int) m fin) {z : (Int32)} (hK : (qa_eq fin) z) : ∀ (n : Nat) (s : Int32 × Int32 × Int32), qa_lp (fun s => b_X6_commonDivisor_2 m s.1 s.2.1 s.2.2) n s = some z → QG X Y 4 m 2 [(0, .int s.1), (1, .int s.2.1), (2, .int s.2.2)] [] := by
  intro n
  induction n with
  | zero => intro s hf; cases hf
  | succ n ih =>
    intro s hf
    obtain ⟨y, hy, hf⟩ := qa_lp_e hf
    refine t_X6_commonDivisor_2 hC hQ hy ?_
    rcases hf with ⟨s', rfl, hf⟩ | rfl
    · exact ih s' hf
    · exact hK
set_option maxRecDepth 100000 in
set_option maxHeartbeats 4000000 in
theorem tl_X6_commonDivisor_2 {X : qaX} {l : Launch} {Y : qaY} {fin : Int32} {m : qaM} (hC : QC X l Y cX6_commonDivisor RX6 4 1) (hQ : QRi X Y (some .int) m fin) {v0 : Int32} {v1 : Int32} {v2 : Int32} {z : (Int32)} (hf : lp_X6_commonDivisor_2 m v0 v1 v2 = some z) (hK : (qa_eq fin) z) : QG X Y 4 m 2 [(0, .int v0), (1, .int v1), (2, .int v2)] [] :=
  tn_X6_commonDivisor_2 hC hQ hK qa_F (v0, v1, v2) hf
set_option maxRecDepth 100000 in
set_option maxHeartbeats 4000000 in
theorem c_X6_commonDivisor (l : Launch) (Y : qaY) (m : qaM) (v0 : Int32) (v1 : Int32) (q : Int32) (hf : f_X6_commonDivisor m v0 v1 = some q) : qaMi l Y yX6_commonDivisor cX6_commonDivisor 4 (some .int) 1 [.int v0, .int v1] m m q := by
  refine qa_enti (by decide +kernel) (Nat.le_of_ble_eq_true rfl) fun X hC hQ => ?_
  have hK : qa_eq q q := rfl
  unfold f_X6_commonDivisor at hf
  refine qi_iconst hC dX6_commonDivisor_0 kn_iconst_0 ?_
  refine qi_istore_n hC rfl (by decide) rfl dX6_commonDivisor_1 ?_
  refine qi_sub hC [1, 2, 0] rfl ?_
  exact tl_X6_commonDivisor_2 hC hQ hf hK
set_option maxRecDepth 100000 in
set_option maxHeartbeats 4000000 in
theorem t_X6_odds_154 {X : qaX} {l : Launch} {Y : qaY} {fin : Int64 × qaM} (hC : QC X l Y cX6_odds RX6 9 7) (hQ : QRl X Y (some .long) fin.2 fin.1) {m : qaM} {v8 : Int32} {s0 : Int32} {z : (Int64 × qaM)} (hf : b_X6_odds_154 m v8 s0 = some z) (hK : (qa_eq fin) z) : QG X Y 9 m 154 [(8, .int v8)] [.int s0] := by
  unfold b_X6_odds_154 at hf
  refine qi_iload hC 0 rfl dX6_odds_154 ?_
  refine qi_if_le (tgt := 164) hC (by decide) dX6_odds_156 (fun h => ?_) (fun h => ?_)
  · replace hf := qa_if_t h hf
    refine qi_iconst hC dX6_odds_164 kn_iconst_1 ?_
    refine qi_idiv hC (by decide) dX6_odds_165 ?_
    refine qi_i2l hC dX6_odds_166 ?_
    obtain rfl := Option.some.inj hf
    exact qi_lret hC hQ hK dX6_odds_167
  · replace hf := qa_if_f h hf
    refine qi_iload hC 0 rfl dX6_odds_159 ?_
    refine qi_goto (tgt := 165) hC (by decide) dX6_odds_161 ?_
    obtain ⟨h7, hf⟩ := qa_ck_e hf
    refine qi_idiv hC (of_decide_eq_true h7) dX6_odds_165 ?_
    refine qi_i2l hC dX6_odds_166 ?_
    obtain rfl := Option.some.inj hf
    exact qi_lret hC hQ hK dX6_odds_167
set_option maxRecDepth 100000 in
set_option maxHeartbeats 4000000 in
theorem t_X6_odds_133 {X : qaX} {l : Launch} {Y : qaY} {fin : Int64 × qaM} (hC : QC X l Y cX6_odds RX6 9 7) (hQ : QRl X Y (some .long) fin.2 fin.1) {m : qaM} {v4 : Int32} {v5 : Int32} {v7 : Int32} {z : (Int64 × qaM)} (hf : b_X6_odds_133 m v4 v5 v7 = some z) (hK : (qa_eq fin) z) : QG X Y 9 m 133 [(4, .int v4), (5, .int v5), (7, .int v7)] [] := by
  unfold b_X6_odds_133 at hf
  refine qi_iload hC 1 rfl dX6_odds_133 ?_
  refine qi_iload hC 2 rfl dX6_odds_135 ?_
  obtain ⟨q6, hq6, hf⟩ := Option.bind_eq_some_iff.mp hf
  refine qi_callSi hC (as := [.int v5, .int v7]) (c_X6_commonDivisor _ _ _ _ _ _ hq6) kl_X6_231 kc_X6_commonDivisor rfl rfl (by decide) (by decide) (Nat.le_of_ble_eq_true rfl) dX6_odds_137 ?_
  refine qi_istore hC (by decide) rfl dX6_odds_140 ?_
  refine qi_iload hC 1 rfl dX6_odds_142 ?_
  refine qi_if_ne (tgt := 152) hC (by decide) dX6_odds_144 (fun h => ?_) (fun h => ?_)
  · replace hf := qa_if_f h hf
    refine qi_iload hC 2 rfl dX6_odds_152 ?_
    refine qi_sub hC [0] rfl ?_
    exact t_X6_odds_154 hC hQ hf hK
  · replace hf := qa_if_t h hf
    refine qi_iload hC 3 rfl dX6_odds_147 ?_
    refine qi_goto (tgt := 154) hC (by decide) dX6_odds_149 ?_
    refine qi_sub hC [0] rfl ?_
    exact t_X6_odds_154 hC hQ hf hK
set_option maxRecDepth 100000 in
set_option maxHeartbeats 4000000 in
theorem t_X6_odds_127 {X : qaX} {l : Launch} {Y : qaY} {fin : Int64 × qaM} (hC : QC X l Y cX6_odds RX6 9 7) (hQ : QRl X Y (some .long) fin.2 fin.1) {m : qaM} {v1 : Int32} {v2 : Int32} {v3 : Int32} {v4 : Int32} {v5 : Int32} {v6 : Int32} {v7 : Int32} {v8 : Int32} {z : ((qaM × Int32 × Int32) ⊕ (Int64 × qaM))} (hf : b_X6_odds_127 m v1 v2 v3 v4 v5 v6 v7 v8 = some z) (hK : (qa_K (fun s => QG X Y 9 s.1 75 [(0, .ref (Y.2.2.1 0)), (1, .int v1), (2, .int v2), (3, .int v3), (4, .int v4), (5, .int v5), (6, .int v6), (7, .int s.2.1), (8, .int s.2.2)] []) (qa_eq fin)) z) : QG X Y 9 m 127 [(0, .ref (Y.2.2.1 0)), (1, .int v1), (2, .int v2), (3, .int v3), (4, .int v4), (5, .int v5), (6, .int v6), (7, .int v7), (8, .int v8)] [] := by
  unfold b_X6_odds_127 at hf
  obtain ⟨x11, ex11, hf⟩ := qa_lt_e hf
  refine qi_iinc hC (n := 1) (v := x11) 8 rfl ((congrArg (fun q => v8 + q) kn_iconst_1).trans ex11.symm) (by decide) rfl dX6_odds_127 ?_
  refine qi_goto (tgt := 75) hC (by decide) dX6_odds_130 ?_
  obtain rfl := Option.some.inj hf
  refine qi_sub hC [1, 2, 3, 4, 5, 6, 7, 8, 0] rfl ?_
  exact hK
set_option maxRecDepth 100000 in
set_option maxHeartbeats 4000000 in
theorem t_X6_odds_75 {X : qaX} {l : Launch} {Y : qaY} {fin : Int64 × qaM} (hC : QC X l Y cX6_odds RX6 9 7) (hQ : QRl X Y (some .long) fin.2 fin.1) {m : qaM} {v1 : Int32} {v2 : Int32} {v3 : Int32} {v4 : Int32} {v5 : Int32} {v6 : Int32} {v7 : Int32} {v8 : Int32} {z : ((qaM × Int32 × Int32) ⊕ (Int64 × qaM))} (hf : b_X6_odds_75 m v1 v2 v3 v4 v5 v6 v7 v8 = some z) (hK : (qa_K (fun s => QG X Y 9 s.1 75 [(0, .ref (Y.2.2.1 0)), (1, .int v1), (2, .int v2), (3, .int v3), (4, .int v4), (5, .int v5), (6, .int v6), (7, .int s.2.1), (8, .int s.2.2)] []) (qa_eq fin)) z) : QG X Y 9 m 75 [(0, .ref (Y.2.2.1 0)), (1, .int v1), (2, .int v2), (3, .int v3), (4, .int v4), (5, .int v5), (6, .int v6), (7, .int v7), (8, .int v8)] [] := by
  unfold b_X6_odds_75 at hf
  refine qi_iload hC 8 rfl dX6_odds_75 ?_
  refine qi_iload hC 5 rfl dX6_odds_77 ?_
  refine qi_icmp_ge (tgt := 133) hC (by decide) dX6_odds_79 (fun h => ?_) (fun h => ?_)
  · replace hf := qa_if_t h hf
    obtain ⟨z, rfl, hg⟩ := qa_inr_e hf; have hf := hg
    refine qi_sub hC [4, 5, 7] rfl ?_
    exact t_X6_odds_133 hC hQ hf hK
  · replace hf := qa_if_f h hf
    refine qi_aload_n hC 0 rfl rfl dX6_odds_82 ?_
    refine qi_getr hC kf_X6_35 sh_0 rfl dX6_odds_83 ?_
    refine qi_aload_n hC 0 rfl rfl dX6_odds_86 ?_
    refine qi_getr hC kf_X6_28 sh_0 rfl dX6_odds_87 ?_
    obtain ⟨q8, hq8, hf⟩ := Option.bind_eq_some_iff.mp hf
    refine qi_callVv hC (as := [.ref (Y.2.2.1 8)]) (c_X0_beginsAs _ _ hou_20 hou_8 _ _ hq8) kl_X6_188 sh_20 kc_X0_beginsAs rfl rfl (by decide) (by decide) (Nat.le_of_ble_eq_true rfl) dX6_odds_90 ?_
    refine qi_aload_n hC 0 rfl rfl dX6_odds_93 ?_
    refine qi_getr hC kf_X6_35 sh_0 rfl dX6_odds_94 ?_
    refine qi_iload_n hC 1 rfl rfl dX6_odds_97 ?_
    refine qi_iload hC 8 rfl dX6_odds_98 ?_
    refine qi_iadd hC dX6_odds_100 ?_
    refine qi_iload_n hC 2 rfl rfl dX6_odds_101 ?_
    refine qi_iload_n hC 3 rfl rfl dX6_odds_102 ?_
    refine qi_bipush hC dX6_odds_103 kn_bipush_100 ?_
    refine qi_irem hC (by decide) dX6_odds_105 ?_
    obtain ⟨q9, hq9, hf⟩ := Option.bind_eq_some_iff.mp hf
    refine qi_callVv hC (as := [.int (v1 + v8), .int v2, .int (v3 - v3 / (100 : Int32) * (100 : Int32))]) (c_X0_livesByLot _ _ hou_20 _ _ _ _ _ hq9) kl_X6_223 sh_20 kc_X0_livesByLot rfl rfl (by decide) (by decide) (Nat.le_of_ble_eq_true rfl) dX6_odds_106 ?_
    refine qi_aload_n hC 0 rfl rfl dX6_odds_109 ?_
    refine qi_getr hC kf_X6_35 sh_0 rfl dX6_odds_110 ?_
    refine qi_getr hC kf_X6_52 sh_20 rfl dX6_odds_113 ?_
    obtain ⟨q10, hq10, hf⟩ := Option.bind_eq_some_iff.mp hf
    refine qi_callVi hC (as := []) (c_X1_left _ _ hou_20.2.1 _ _ hq10) kl_X6_167 sh_21 kc_X1_left rfl rfl (by decide) (by decide) (Nat.le_of_ble_eq_true rfl) dX6_odds_116 ?_
    refine qi_iload hC 6 rfl dX6_odds_119 ?_
    refine qi_icmp_lt (tgt := 127) hC (by decide) dX6_odds_121 (fun h => ?_) (fun h => ?_)
    · replace hf := qa_if_t h hf
      exact t_X6_odds_127 hC hQ hf hK
    · replace hf := qa_if_f h hf
      obtain ⟨x12, ex12, hf⟩ := qa_lt_e hf
      refine qi_iinc hC (n := 1) (v := x12) 7 rfl ((congrArg (fun q => v7 + q) kn_iconst_1).trans ex12.symm) (by decide) rfl dX6_odds_124 ?_
      refine qi_sub hC [1, 2, 3, 4, 5, 6, 7, 0, 8] rfl ?_
      exact t_X6_odds_127 hC hQ hf hK
set_option maxRecDepth 100000 in
set_option maxHeartbeats 4000000 in
theorem tn_X6_odds_75 {X : qaX} {l : Launch} {Y : qaY} {fin : Int64 × qaM} (hC : QC X l Y cX6_odds RX6 9 7) (hQ : QRl X Y (some .long) fin.2 fin.1) {v1 : Int32} {v2 : Int32} {v3 : Int32} {v4 : Int32} {v5 : Int32} {v6 : Int32} {z : (Int64 × qaM)} (hK : (qa_eq fin) z) : ∀ (n : Nat) (s : qaM × Int32 × Int32), qa_lp (fun s => b_X6_odds_75 s.1 v1 v2 v3 v4 v5 v6 s.2.1 s.2.2) n s = some z → QG X Y 9 s.1 75 [(0, .ref (Y.2.2.1 0)), (1, .int v1), (2, .int v2), (3, .int v3), (4, .int v4), (5, .int v5), (6, .int v6), (7, .int s.2.1), (8, .int s.2.2)] [] := by
  intro n
  induction n with
  | zero => intro s hf; cases hf
  | succ n ih =>
    intro s hf
    obtain ⟨y, hy, hf⟩ := qa_lp_e hf
    refine t_X6_odds_75 hC hQ hy ?_
    rcases hf with ⟨s', rfl, hf⟩ | rfl
    · exact ih s' hf
    · exact hK
set_option maxRecDepth 100000 in
set_option maxHeartbeats 4000000 in
theorem tl_X6_odds_75 {X : qaX} {l : Launch} {Y : qaY} {fin : Int64 × qaM} (hC : QC X l Y cX6_odds RX6 9 7) (hQ : QRl X Y (some .long) fin.2 fin.1) {m : qaM} {v1 : Int32} {v2 : Int32} {v3 : Int32} {v4 : Int32} {v5 : Int32} {v6 : Int32} {v7 : Int32} {v8 : Int32} {z : (Int64 × qaM)} (hf : lp_X6_odds_75 m v1 v2 v3 v4 v5 v6 v7 v8 = some z) (hK : (qa_eq fin) z) : QG X Y 9 m 75 [(0, .ref (Y.2.2.1 0)), (1, .int v1), (2, .int v2), (3, .int v3), (4, .int v4), (5, .int v5), (6, .int v6), (7, .int v7), (8, .int v8)] [] :=
  tn_X6_odds_75 hC hQ hK qa_F (m, v7, v8) hf
set_option maxRecDepth 100000 in
set_option maxHeartbeats 4000000 in
theorem c_X6_odds (l : Launch) (Y : qaY) (m : qaM) (v1 : Int32) (v2 : Int32) (v3 : Int32) (v4 : Int32) (q : Int64 × qaM) (hf : f_X6_odds m v1 v2 v3 v4 = some q) : qaMl l Y yX6_odds cX6_odds 9 (some .long) 7 [.ref (Y.2.2.1 0), .int v1, .int v2, .int v3, .int v4] m q.2 q.1 := by
  refine qa_entl (by decide +kernel) (Nat.le_of_ble_eq_true rfl) fun X hC hQ => ?_
  have hK : qa_eq q q := rfl
  unfold f_X6_odds at hf
  refine qi_iload_n hC 1 rfl rfl dX6_odds_0 ?_
  obtain ⟨q1, hq1, hf⟩ := Option.bind_eq_some_iff.mp hf
  refine qi_callSi hC (as := [.int v1]) (c_X6_isSeed _ _ _ _ _ hq1) kl_X6_220 kc_X6_isSeed rfl rfl (by decide) (by decide) (Nat.le_of_ble_eq_true rfl) dX6_odds_1 ?_
  refine qi_if_eq (tgt := 25) hC (by decide) dX6_odds_4 (fun h => ?_) (fun h => ?_)
  · replace hf := qa_if_t h hf
    refine qi_ldc2 hC kk_X6_229 dX6_odds_25 ?_
    obtain rfl := Option.some.inj hf
    exact qi_lret hC hQ hK dX6_odds_28
  · replace hf := qa_if_f h hf
    refine qi_iload_n hC 2 rfl rfl dX6_odds_7 ?_
    obtain ⟨q2, hq2, hf⟩ := Option.bind_eq_some_iff.mp hf
    refine qi_callSi hC (as := [.int v2]) (c_X6_isWeeks _ _ _ _ _ hq2) kl_X6_161 kc_X6_isWeeks rfl rfl (by decide) (by decide) (Nat.le_of_ble_eq_true rfl) dX6_odds_8 ?_
    refine qi_if_eq (tgt := 25) hC (by decide) dX6_odds_11 (fun h => ?_) (fun h => ?_)
    · replace hf := qa_if_t h hf
      refine qi_ldc2 hC kk_X6_229 dX6_odds_25 ?_
      obtain rfl := Option.some.inj hf
      exact qi_lret hC hQ hK dX6_odds_28
    · replace hf := qa_if_f h hf
      refine qi_iload hC 4 rfl dX6_odds_14 ?_
      refine qi_if_lt (tgt := 25) hC (by decide) dX6_odds_16 (fun h => ?_) (fun h => ?_)
      · replace hf := qa_if_t h hf
        refine qi_ldc2 hC kk_X6_229 dX6_odds_25 ?_
        obtain rfl := Option.some.inj hf
        exact qi_lret hC hQ hK dX6_odds_28
      · replace hf := qa_if_f h hf
        refine qi_iload hC 4 rfl dX6_odds_19 ?_
        refine qi_iconst hC dX6_odds_21 kn_iconst_1 ?_
        refine qi_icmp_le (tgt := 29) hC (by decide) dX6_odds_22 (fun h => ?_) (fun h => ?_)
        · replace hf := qa_if_t h hf
          refine qi_iload_n hC 3 rfl rfl dX6_odds_29 ?_
          refine qi_bipush hC dX6_odds_30 kn_bipush_100 ?_
          refine qi_idiv hC (by decide) dX6_odds_32 ?_
          obtain ⟨x3, ex3, hf⟩ := qa_lt_e hf
          refine qi_nmi hC ex3 ?_
          refine qi_istore hC (by decide) rfl dX6_odds_33 ?_
          refine qi_iload_n hC 4 rfl rfl dX6_odds_35 ?_
          refine qi_bipush hC dX6_odds_36 kn_bipush_100 ?_
          refine qi_icmp_lt (tgt := 48) hC (by decide) dX6_odds_38 (fun h => ?_) (fun h => ?_)
          · replace hf := qa_if_t h hf
            refine qi_ldc2 hC kk_X6_229 dX6_odds_48 ?_
            obtain rfl := Option.some.inj hf
            exact qi_lret hC hQ hK dX6_odds_51
          · replace hf := qa_if_f h hf
            refine qi_iload hC 0 rfl dX6_odds_41 ?_
            refine qi_bipush hC dX6_odds_43 kn_bipush_30 ?_
            refine qi_icmp_le (tgt := 52) hC (by decide) dX6_odds_45 (fun h => ?_) (fun h => ?_)
            · replace hf := qa_if_t h hf
              refine qi_aload_n hC 1 rfl rfl dX6_odds_52 ?_
              refine qi_iload_n hC 3 rfl rfl dX6_odds_53 ?_
              obtain ⟨q4, hq4, hf⟩ := Option.bind_eq_some_iff.mp hf
              refine qi_callVv hC (as := [.int v2]) (c_X6_thinks _ _ _ _ _ hq4) kl_X6_164 sh_0 kc_X6_thinks rfl rfl (by decide) (by decide) (Nat.le_of_ble_eq_true rfl) dX6_odds_54 ?_
              refine qi_aload_n hC 1 rfl rfl dX6_odds_57 ?_
              refine qi_getr hC kf_X6_35 sh_0 rfl dX6_odds_58 ?_
              refine qi_getr hC kf_X6_52 sh_20 rfl dX6_odds_61 ?_
              obtain ⟨q5, hq5, hf⟩ := Option.bind_eq_some_iff.mp hf
              refine qi_callVi hC (as := []) (c_X1_left _ _ hou_20.2.1 _ _ hq5) kl_X6_167 sh_21 kc_X1_left rfl rfl (by decide) (by decide) (Nat.le_of_ble_eq_true rfl) dX6_odds_64 ?_
              refine qi_istore hC (by decide) rfl dX6_odds_67 ?_
              refine qi_iconst hC dX6_odds_69 kn_iconst_0 ?_
              refine qi_istore hC (by decide) rfl dX6_odds_70 ?_
              refine qi_iconst hC dX6_odds_72 kn_iconst_0 ?_
              refine qi_istore hC (by decide) rfl dX6_odds_73 ?_
              refine qi_sub hC [4, 5, 6, 7, 8, 3, 2, 1, 0] rfl ?_
              exact tl_X6_odds_75 hC hQ hf hK
            · replace hf := qa_if_f h hf
              refine qi_ldc2 hC kk_X6_229 dX6_odds_48 ?_
              obtain rfl := Option.some.inj hf
              exact qi_lret hC hQ hK dX6_odds_51
        · replace hf := qa_if_f h hf
          refine qi_ldc2 hC kk_X6_229 dX6_odds_25 ?_
          obtain rfl := Option.some.inj hf
          exact qi_lret hC hQ hK dX6_odds_28
set_option maxRecDepth 100000 in
set_option maxHeartbeats 4000000 in
theorem c_X6_image (l : Launch) (Y : qaY) (m : qaM) (q : Int32 × qaM) (hf : f_X6_image m = some q) : qaMi l Y yX6_image cX6_image 1 (some .int) 3 [.ref (Y.2.2.1 0)] m q.2 q.1 := by
  refine qa_enti (by decide +kernel) (Nat.le_of_ble_eq_true rfl) fun X hC hQ => ?_
  have hK : qa_eq q q := rfl
  unfold f_X6_image at hf
  refine qi_aload_n hC 0 rfl rfl dX6_image_0 ?_
  refine qi_getr hC kf_X6_32 sh_0 rfl dX6_image_1 ?_
  refine qi_aload_n hC 0 rfl rfl dX6_image_4 ?_
  refine qi_getr hC kf_X6_28 sh_0 rfl dX6_image_5 ?_
  obtain ⟨q1, hq1, hf⟩ := Option.bind_eq_some_iff.mp hf
  refine qi_callVv hC (as := [.ref (Y.2.2.1 8)]) (c_X0_beginsAs _ _ hou_14 hou_8 _ _ hq1) kl_X6_188 sh_14 kc_X0_beginsAs rfl rfl (by decide) (by decide) (Nat.le_of_ble_eq_true rfl) dX6_image_8 ?_
  refine qi_aload_n hC 0 rfl rfl dX6_image_11 ?_
  refine qi_iconst hC dX6_image_12 kn_iconst_1 ?_
  obtain ⟨m2, em2, hf⟩ := qa_lt_e hf
  refine qi_puti hC em2 kp_X6_48 sh_0 rfl rfl rfl dX6_image_13 ?_
  refine qi_aload_n hC 0 rfl rfl dX6_image_16 ?_
  refine qi_getr hC kf_X6_32 sh_0 rfl dX6_image_17 ?_
  refine qi_getr hC kf_X6_52 sh_14 rfl dX6_image_20 ?_
  refine qi_geti hC kf_X6_56 sh_15 rfl dX6_image_23 ?_
  obtain rfl := Option.some.inj hf
  exact qi_ireti hC hQ hK dX6_image_26
set_option maxRecDepth 100000 in
set_option maxHeartbeats 4000000 in
theorem c_X6_back (l : Launch) (Y : qaY) (m : qaM) (q : Int32 × qaM) (hf : f_X6_back m = some q) : qaMi l Y yX6_back cX6_back 1 (some .int) 3 [.ref (Y.2.2.1 0)] m q.2 q.1 := by
  refine qa_enti (by decide +kernel) (Nat.le_of_ble_eq_true rfl) fun X hC hQ => ?_
  have hK : qa_eq q q := rfl
  unfold f_X6_back at hf
  refine qi_aload_n hC 0 rfl rfl dX6_back_0 ?_
  refine qi_geti hC kf_X6_48 sh_0 rfl dX6_back_1 ?_
  refine qi_if_ne (tgt := 10) hC (by decide) dX6_back_4 (fun h => ?_) (fun h => ?_)
  · replace hf := qa_if_f h hf
    refine qi_aload_n hC 0 rfl rfl dX6_back_10 ?_
    refine qi_getr hC kf_X6_28 sh_0 rfl dX6_back_11 ?_
    refine qi_aload_n hC 0 rfl rfl dX6_back_14 ?_
    refine qi_getr hC kf_X6_32 sh_0 rfl dX6_back_15 ?_
    obtain ⟨q1, hq1, hf⟩ := Option.bind_eq_some_iff.mp hf
    refine qi_callVv hC (as := [.ref (Y.2.2.1 14)]) (c_X0_beginsAs _ _ hou_8 hou_14 _ _ hq1) kl_X6_188 sh_8 kc_X0_beginsAs rfl rfl (by decide) (by decide) (Nat.le_of_ble_eq_true rfl) dX6_back_18 ?_
    refine qi_aload_n hC 0 rfl rfl dX6_back_21 ?_
    refine qi_getr hC kf_X6_28 sh_0 rfl dX6_back_22 ?_
    refine qi_getr hC kf_X6_52 sh_8 rfl dX6_back_25 ?_
    refine qi_geti hC kf_X6_56 sh_9 rfl dX6_back_28 ?_
    obtain rfl := Option.some.inj hf
    exact qi_ireti hC hQ hK dX6_back_31
  · replace hf := qa_if_t h hf
    refine qi_bipush hC dX6_back_7 kn_bipush_m3 ?_
    obtain rfl := Option.some.inj hf
    exact qi_ireti hC hQ hK dX6_back_9
set_option maxRecDepth 100000 in
set_option maxHeartbeats 4000000 in
theorem t_X6_sheet_59 {X : qaX} {l : Launch} {Y : qaY} {fin : Int32 × qaM} (hC : QC X l Y cX6_sheet RX6 4 3) (hQ : QRi X Y (some .int) fin.2 fin.1) {m : qaM} {s1 : Int32} {s2 : Int32} {s3 : Int32} {z : (Int32 × qaM)} (hf : b_X6_sheet_59 m s1 s2 s3 = some z) (hK : (qa_eq fin) z) : QG X Y 4 m 59 [] [.int s3, .int s2, .int s1, .ref (Y.2.2.1 32)] := by
  unfold b_X6_sheet_59 at hf
  obtain ⟨q2, hq2, hf⟩ := Option.bind_eq_some_iff.mp hf
  refine qi_callVv hC (as := [.int s1, .int s2, .int s3]) (c_X3_makes _ _ _ _ _ _ _ hq2) kl_X6_214 sh_32 kc_X3_makes rfl rfl (by decide) (by decide) (Nat.le_of_ble_eq_true rfl) dX6_sheet_59 ?_
  refine qi_iconst hC dX6_sheet_62 kn_iconst_1 ?_
  obtain rfl := Option.some.inj hf
  exact qi_ireti hC hQ hK dX6_sheet_63
set_option maxRecDepth 100000 in
set_option maxHeartbeats 4000000 in
theorem t_X6_sheet_43 {X : qaX} {l : Launch} {Y : qaY} {fin : Int32 × qaM} (hC : QC X l Y cX6_sheet RX6 4 3) (hQ : QRi X Y (some .int) fin.2 fin.1) {m : qaM} {v1 : Int32} {v2 : Int32} {v3 : Int32} {z : (Int32 × qaM)} (hf : b_X6_sheet_43 m v1 v2 v3 = some z) (hK : (qa_eq fin) z) : QG X Y 4 m 43 [(0, .ref (Y.2.2.1 0)), (1, .int v1), (2, .int v2), (3, .int v3)] [] := by
  unfold b_X6_sheet_43 at hf
  refine qi_aload_n hC 0 rfl rfl dX6_sheet_43 ?_
  refine qi_getr hC kf_X6_44 sh_0 rfl dX6_sheet_44 ?_
  refine qi_iload_n hC 1 rfl rfl dX6_sheet_47 ?_
  refine qi_iload_n hC 2 rfl rfl dX6_sheet_48 ?_
  refine qi_iload_n hC 2 rfl rfl dX6_sheet_49 ?_
  refine qi_iconst hC dX6_sheet_50 kn_iconst_m1 ?_
  refine qi_icmp_ne (tgt := 58) hC (by decide) dX6_sheet_51 (fun h => ?_) (fun h => ?_)
  · replace hf := qa_if_f h hf
    refine qi_iload_n hC 3 rfl rfl dX6_sheet_58 ?_
    refine qi_sub hC [] rfl ?_
    exact t_X6_sheet_59 hC hQ hf hK
  · replace hf := qa_if_t h hf
    refine qi_iconst hC dX6_sheet_54 kn_iconst_0 ?_
    refine qi_goto (tgt := 59) hC (by decide) dX6_sheet_55 ?_
    refine qi_sub hC [] rfl ?_
    exact t_X6_sheet_59 hC hQ hf hK
set_option maxRecDepth 100000 in
set_option maxHeartbeats 4000000 in
theorem t_X6_sheet_31 {X : qaX} {l : Launch} {Y : qaY} {fin : Int32 × qaM} (hC : QC X l Y cX6_sheet RX6 4 3) (hQ : QRi X Y (some .int) fin.2 fin.1) {m : qaM} {v1 : Int32} {v2 : Int32} {v3 : Int32} {z : (Int32 × qaM)} (hf : b_X6_sheet_31 m v1 v2 v3 = some z) (hK : (qa_eq fin) z) : QG X Y 4 m 31 [(0, .ref (Y.2.2.1 0)), (1, .int v1), (2, .int v2), (3, .int v3)] [] := by
  unfold b_X6_sheet_31 at hf
  refine qi_iload_n hC 2 rfl rfl dX6_sheet_31 ?_
  refine qi_iconst hC dX6_sheet_32 kn_iconst_m1 ?_
  refine qi_icmp_eq (tgt := 43) hC (by decide) dX6_sheet_33 (fun h => ?_) (fun h => ?_)
  · replace hf := qa_if_t h hf
    exact t_X6_sheet_43 hC hQ hf hK
  · replace hf := qa_if_f h hf
    refine qi_iload_n hC 3 rfl rfl dX6_sheet_36 ?_
    refine qi_if_ge (tgt := 43) hC (by decide) dX6_sheet_37 (fun h => ?_) (fun h => ?_)
    · replace hf := qa_if_t h hf
      exact t_X6_sheet_43 hC hQ hf hK
    · replace hf := qa_if_f h hf
      refine qi_bipush hC dX6_sheet_40 kn_bipush_m14 ?_
      obtain rfl := Option.some.inj hf
      exact qi_ireti hC hQ hK dX6_sheet_42
set_option maxRecDepth 100000 in
set_option maxHeartbeats 4000000 in
theorem c_X6_sheet (l : Launch) (Y : qaY) (m : qaM) (v1 : Int32) (v2 : Int32) (v3 : Int32) (q : Int32 × qaM) (hf : f_X6_sheet m v1 v2 v3 = some q) : qaMi l Y yX6_sheet cX6_sheet 4 (some .int) 3 [.ref (Y.2.2.1 0), .int v1, .int v2, .int v3] m q.2 q.1 := by
  refine qa_enti (by decide +kernel) (Nat.le_of_ble_eq_true rfl) fun X hC hQ => ?_
  have hK : qa_eq q q := rfl
  unfold f_X6_sheet at hf
  refine qi_iload_n hC 1 rfl rfl dX6_sheet_0 ?_
  obtain ⟨q1, hq1, hf⟩ := Option.bind_eq_some_iff.mp hf
  refine qi_callSi hC (as := [.int v1]) (c_X6_isSheet _ _ _ _ _ hq1) kl_X6_211 kc_X6_isSheet rfl rfl (by decide) (by decide) (Nat.le_of_ble_eq_true rfl) dX6_sheet_1 ?_
  refine qi_if_eq (tgt := 28) hC (by decide) dX6_sheet_4 (fun h => ?_) (fun h => ?_)
  · replace hf := qa_if_t h hf
    refine qi_bipush hC dX6_sheet_28 kn_bipush_m2 ?_
    obtain rfl := Option.some.inj hf
    exact qi_ireti hC hQ hK dX6_sheet_30
  · replace hf := qa_if_f h hf
    refine qi_iload_n hC 2 rfl rfl dX6_sheet_7 ?_
    refine qi_iconst hC dX6_sheet_8 kn_iconst_m1 ?_
    refine qi_icmp_lt (tgt := 28) hC (by decide) dX6_sheet_9 (fun h => ?_) (fun h => ?_)
    · replace hf := qa_if_t h hf
      refine qi_bipush hC dX6_sheet_28 kn_bipush_m2 ?_
      obtain rfl := Option.some.inj hf
      exact qi_ireti hC hQ hK dX6_sheet_30
    · replace hf := qa_if_f h hf
      refine qi_iload_n hC 2 rfl rfl dX6_sheet_12 ?_
      refine qi_iconst hC dX6_sheet_13 kn_iconst_2 ?_
      refine qi_icmp_gt (tgt := 28) hC (by decide) dX6_sheet_14 (fun h => ?_) (fun h => ?_)
      · replace hf := qa_if_t h hf
        refine qi_bipush hC dX6_sheet_28 kn_bipush_m2 ?_
        obtain rfl := Option.some.inj hf
        exact qi_ireti hC hQ hK dX6_sheet_30
      · replace hf := qa_if_f h hf
        refine qi_iload_n hC 2 rfl rfl dX6_sheet_17 ?_
        refine qi_iconst hC dX6_sheet_18 kn_iconst_m1 ?_
        refine qi_icmp_eq (tgt := 31) hC (by decide) dX6_sheet_19 (fun h => ?_) (fun h => ?_)
        · replace hf := qa_if_t h hf
          exact t_X6_sheet_31 hC hQ hf hK
        · replace hf := qa_if_f h hf
          refine qi_iload_n hC 3 rfl rfl dX6_sheet_22 ?_
          refine qi_bipush hC dX6_sheet_23 kn_bipush_40 ?_
          refine qi_icmp_le (tgt := 31) hC (by decide) dX6_sheet_25 (fun h => ?_) (fun h => ?_)
          · replace hf := qa_if_t h hf
            exact t_X6_sheet_31 hC hQ hf hK
          · replace hf := qa_if_f h hf
            refine qi_bipush hC dX6_sheet_28 kn_bipush_m2 ?_
            obtain rfl := Option.some.inj hf
            exact qi_ireti hC hQ hK dX6_sheet_30
set_option maxRecDepth 100000 in
set_option maxHeartbeats 4000000 in
theorem c_X6_cell (l : Launch) (Y : qaY) (m : qaM) (v1 : Int32) (v2 : Int32) (v3 : Int32) (q : Int32 × qaM) (hf : f_X6_cell m v1 v2 v3 = some q) : qaMi l Y yX6_cell cX6_cell 4 (some .int) 4 [.ref (Y.2.2.1 0), .int v1, .int v2, .int v3] m q.2 q.1 := by
  refine qa_enti (by decide +kernel) (Nat.le_of_ble_eq_true rfl) fun X hC hQ => ?_
  have hK : qa_eq q q := rfl
  unfold f_X6_cell at hf
  refine qi_iload_n hC 1 rfl rfl dX6_cell_0 ?_
  obtain ⟨q1, hq1, hf⟩ := Option.bind_eq_some_iff.mp hf
  refine qi_callSi hC (as := [.int v1]) (c_X6_isSheet _ _ _ _ _ hq1) kl_X6_211 kc_X6_isSheet rfl rfl (by decide) (by decide) (Nat.le_of_ble_eq_true rfl) dX6_cell_1 ?_
  refine qi_if_ne (tgt := 10) hC (by decide) dX6_cell_4 (fun h => ?_) (fun h => ?_)
  · replace hf := qa_if_f h hf
    refine qi_aload_n hC 0 rfl rfl dX6_cell_10 ?_
    refine qi_getr hC kf_X6_44 sh_0 rfl dX6_cell_11 ?_
    refine qi_iload_n hC 1 rfl rfl dX6_cell_14 ?_
    obtain ⟨q2, hq2, hf⟩ := Option.bind_eq_some_iff.mp hf
    refine qi_callVi hC (as := [.int v1]) (c_X3_isMissing _ _ _ _ _ hq2) kl_X6_234 sh_32 kc_X3_isMissing rfl rfl (by decide) (by decide) (Nat.le_of_ble_eq_true rfl) dX6_cell_15 ?_
    refine qi_if_eq (tgt := 24) hC (by decide) dX6_cell_18 (fun h => ?_) (fun h => ?_)
    · replace hf := qa_if_t h hf
      refine qi_aload_n hC 0 rfl rfl dX6_cell_24 ?_
      refine qi_getr hC kf_X6_44 sh_0 rfl dX6_cell_25 ?_
      refine qi_iload_n hC 1 rfl rfl dX6_cell_28 ?_
      refine qi_iload_n hC 2 rfl rfl dX6_cell_29 ?_
      obtain ⟨q3, hq3, hf⟩ := Option.bind_eq_some_iff.mp hf
      refine qi_callVi hC (as := [.int v1, .int v2]) (c_X3_isPlace _ _ _ _ _ _ hq3) kl_X6_237 sh_32 kc_X3_isPlace rfl rfl (by decide) (by decide) (Nat.le_of_ble_eq_true rfl) dX6_cell_30 ?_
      refine qi_if_ne (tgt := 39) hC (by decide) dX6_cell_33 (fun h => ?_) (fun h => ?_)
      · replace hf := qa_if_f h hf
        refine qi_aload_n hC 0 rfl rfl dX6_cell_39 ?_
        refine qi_getr hC kf_X6_44 sh_0 rfl dX6_cell_40 ?_
        refine qi_iload_n hC 1 rfl rfl dX6_cell_43 ?_
        refine qi_iload_n hC 2 rfl rfl dX6_cell_44 ?_
        refine qi_iload_n hC 3 rfl rfl dX6_cell_45 ?_
        obtain ⟨q4, hq4, hf⟩ := Option.bind_eq_some_iff.mp hf
        refine qi_callVv hC (as := [.int v1, .int v2, .int v3]) (c_X3_writes _ _ _ _ _ _ _ hq4) kl_X6_217 sh_32 kc_X3_writes rfl rfl (by decide) (by decide) (Nat.le_of_ble_eq_true rfl) dX6_cell_46 ?_
        refine qi_iconst hC dX6_cell_49 kn_iconst_1 ?_
        obtain rfl := Option.some.inj hf
        exact qi_ireti hC hQ hK dX6_cell_50
      · replace hf := qa_if_t h hf
        refine qi_bipush hC dX6_cell_36 kn_bipush_m12 ?_
        obtain rfl := Option.some.inj hf
        exact qi_ireti hC hQ hK dX6_cell_38
    · replace hf := qa_if_f h hf
      refine qi_bipush hC dX6_cell_21 kn_bipush_m11 ?_
      obtain rfl := Option.some.inj hf
      exact qi_ireti hC hQ hK dX6_cell_23
  · replace hf := qa_if_t h hf
    refine qi_bipush hC dX6_cell_7 kn_bipush_m2 ?_
    obtain rfl := Option.some.inj hf
    exact qi_ireti hC hQ hK dX6_cell_9
set_option maxRecDepth 100000 in
set_option maxHeartbeats 4000000 in
theorem c_X6_copy (l : Launch) (Y : qaY) (m : qaM) (v1 : Int32) (v2 : Int32) (v3 : Int32) (v4 : Int32) (v5 : Int32) (q : Int32 × qaM) (hf : f_X6_copy m v1 v2 v3 v4 v5 = some q) : qaMi l Y yX6_copy cX6_copy 6 (some .int) 4 [.ref (Y.2.2.1 0), .int v1, .int v2, .int v3, .int v4, .int v5] m q.2 q.1 := by
  refine qa_enti (by decide +kernel) (Nat.le_of_ble_eq_true rfl) fun X hC hQ => ?_
  have hK : qa_eq q q := rfl
  unfold f_X6_copy at hf
  refine qi_iload_n hC 1 rfl rfl dX6_copy_0 ?_
  obtain ⟨q1, hq1, hf⟩ := Option.bind_eq_some_iff.mp hf
  refine qi_callSi hC (as := [.int v1]) (c_X6_isSheet _ _ _ _ _ hq1) kl_X6_211 kc_X6_isSheet rfl rfl (by decide) (by decide) (Nat.le_of_ble_eq_true rfl) dX6_copy_1 ?_
  refine qi_if_eq (tgt := 14) hC (by decide) dX6_copy_4 (fun h => ?_) (fun h => ?_)
  · replace hf := qa_if_t h hf
    refine qi_bipush hC dX6_copy_14 kn_bipush_m2 ?_
    obtain rfl := Option.some.inj hf
    exact qi_ireti hC hQ hK dX6_copy_16
  · replace hf := qa_if_f h hf
    refine qi_iload_n hC 3 rfl rfl dX6_copy_7 ?_
    obtain ⟨q2, hq2, hf⟩ := Option.bind_eq_some_iff.mp hf
    refine qi_callSi hC (as := [.int v3]) (c_X6_isSheet _ _ _ _ _ hq2) kl_X6_211 kc_X6_isSheet rfl rfl (by decide) (by decide) (Nat.le_of_ble_eq_true rfl) dX6_copy_8 ?_
    refine qi_if_ne (tgt := 17) hC (by decide) dX6_copy_11 (fun h => ?_) (fun h => ?_)
    · replace hf := qa_if_f h hf
      refine qi_aload_n hC 0 rfl rfl dX6_copy_17 ?_
      refine qi_getr hC kf_X6_44 sh_0 rfl dX6_copy_18 ?_
      refine qi_iload_n hC 1 rfl rfl dX6_copy_21 ?_
      obtain ⟨q3, hq3, hf⟩ := Option.bind_eq_some_iff.mp hf
      refine qi_callVi hC (as := [.int v1]) (c_X3_isMissing _ _ _ _ _ hq3) kl_X6_234 sh_32 kc_X3_isMissing rfl rfl (by decide) (by decide) (Nat.le_of_ble_eq_true rfl) dX6_copy_22 ?_
      refine qi_if_ne (tgt := 39) hC (by decide) dX6_copy_25 (fun h => ?_) (fun h => ?_)
      · replace hf := qa_if_f h hf
        refine qi_bipush hC dX6_copy_39 kn_bipush_m11 ?_
        obtain rfl := Option.some.inj hf
        exact qi_ireti hC hQ hK dX6_copy_41
      · replace hf := qa_if_t h hf
        refine qi_aload_n hC 0 rfl rfl dX6_copy_28 ?_
        refine qi_getr hC kf_X6_44 sh_0 rfl dX6_copy_29 ?_
        refine qi_iload_n hC 3 rfl rfl dX6_copy_32 ?_
        obtain ⟨q4, hq4, hf⟩ := Option.bind_eq_some_iff.mp hf
        refine qi_callVi hC (as := [.int v3]) (c_X3_isMissing _ _ _ _ _ hq4) kl_X6_234 sh_32 kc_X3_isMissing rfl rfl (by decide) (by decide) (Nat.le_of_ble_eq_true rfl) dX6_copy_33 ?_
        refine qi_if_eq (tgt := 42) hC (by decide) dX6_copy_36 (fun h => ?_) (fun h => ?_)
        · replace hf := qa_if_t h hf
          refine qi_aload_n hC 0 rfl rfl dX6_copy_42 ?_
          refine qi_getr hC kf_X6_44 sh_0 rfl dX6_copy_43 ?_
          refine qi_getr hC kf_X6_240 sh_32 rfl dX6_copy_46 ?_
          refine qi_iload_n hC 1 rfl rfl dX6_copy_49 ?_
          obtain ⟨h5, hf⟩ := qa_ck_e hf
          refine qi_iald hC rfl sh_33 (qa_in_v h5) dX6_copy_50 ?_
          refine qi_aload_n hC 0 rfl rfl dX6_copy_51 ?_
          refine qi_getr hC kf_X6_44 sh_0 rfl dX6_copy_52 ?_
          refine qi_getr hC kf_X6_240 sh_32 rfl dX6_copy_55 ?_
          refine qi_iload_n hC 3 rfl rfl dX6_copy_58 ?_
          obtain ⟨h6, hf⟩ := qa_ck_e hf
          refine qi_iald hC rfl sh_33 (qa_in_v h6) dX6_copy_59 ?_
          refine qi_icmp_eq (tgt := 66) hC (by decide) dX6_copy_60 (fun h => ?_) (fun h => ?_)
          · replace hf := qa_if_t h hf
            refine qi_aload_n hC 0 rfl rfl dX6_copy_66 ?_
            refine qi_getr hC kf_X6_44 sh_0 rfl dX6_copy_67 ?_
            refine qi_iload_n hC 1 rfl rfl dX6_copy_70 ?_
            refine qi_iload_n hC 2 rfl rfl dX6_copy_71 ?_
            refine qi_iload hC 5 rfl dX6_copy_72 ?_
            obtain ⟨q7, hq7, hf⟩ := Option.bind_eq_some_iff.mp hf
            refine qi_callVi hC (as := [.int v1, .int v2, .int v5]) (c_X3_holds _ _ _ _ _ _ _ hq7) kl_X6_243 sh_32 kc_X3_holds rfl rfl (by decide) (by decide) (Nat.le_of_ble_eq_true rfl) dX6_copy_74 ?_
            refine qi_if_eq (tgt := 95) hC (by decide) dX6_copy_77 (fun h => ?_) (fun h => ?_)
            · replace hf := qa_if_t h hf
              refine qi_bipush hC dX6_copy_95 kn_bipush_m12 ?_
              obtain rfl := Option.some.inj hf
              exact qi_ireti hC hQ hK dX6_copy_97
            · replace hf := qa_if_f h hf
              refine qi_aload_n hC 0 rfl rfl dX6_copy_80 ?_
              refine qi_getr hC kf_X6_44 sh_0 rfl dX6_copy_81 ?_
              refine qi_iload_n hC 3 rfl rfl dX6_copy_84 ?_
              refine qi_iload hC 4 rfl dX6_copy_85 ?_
              refine qi_iload hC 5 rfl dX6_copy_87 ?_
              obtain ⟨q8, hq8, hf⟩ := Option.bind_eq_some_iff.mp hf
              refine qi_callVi hC (as := [.int v3, .int v4, .int v5]) (c_X3_holds _ _ _ _ _ _ _ hq8) kl_X6_243 sh_32 kc_X3_holds rfl rfl (by decide) (by decide) (Nat.le_of_ble_eq_true rfl) dX6_copy_89 ?_
              refine qi_if_ne (tgt := 98) hC (by decide) dX6_copy_92 (fun h => ?_) (fun h => ?_)
              · replace hf := qa_if_f h hf
                refine qi_aload_n hC 0 rfl rfl dX6_copy_98 ?_
                refine qi_getr hC kf_X6_44 sh_0 rfl dX6_copy_99 ?_
                refine qi_iload_n hC 1 rfl rfl dX6_copy_102 ?_
                refine qi_iload_n hC 2 rfl rfl dX6_copy_103 ?_
                refine qi_iload_n hC 3 rfl rfl dX6_copy_104 ?_
                refine qi_iload hC 4 rfl dX6_copy_105 ?_
                refine qi_iload hC 5 rfl dX6_copy_107 ?_
                obtain ⟨q9, hq9, hf⟩ := Option.bind_eq_some_iff.mp hf
                refine qi_callVv hC (as := [.int v1, .int v2, .int v3, .int v4, .int v5]) (c_X3_moves _ _ _ _ _ _ _ _ _ hq9) kl_X6_247 sh_32 kc_X3_moves rfl rfl (by decide) (by decide) (Nat.le_of_ble_eq_true rfl) dX6_copy_109 ?_
                refine qi_iload hC 5 rfl dX6_copy_112 ?_
                obtain rfl := Option.some.inj hf
                exact qi_ireti hC hQ hK dX6_copy_114
              · replace hf := qa_if_t h hf
                refine qi_bipush hC dX6_copy_95 kn_bipush_m12 ?_
                obtain rfl := Option.some.inj hf
                exact qi_ireti hC hQ hK dX6_copy_97
          · replace hf := qa_if_f h hf
            refine qi_bipush hC dX6_copy_63 kn_bipush_m13 ?_
            obtain rfl := Option.some.inj hf
            exact qi_ireti hC hQ hK dX6_copy_65
        · replace hf := qa_if_f h hf
          refine qi_bipush hC dX6_copy_39 kn_bipush_m11 ?_
          obtain rfl := Option.some.inj hf
          exact qi_ireti hC hQ hK dX6_copy_41
    · replace hf := qa_if_t h hf
      refine qi_bipush hC dX6_copy_14 kn_bipush_m2 ?_
      obtain rfl := Option.some.inj hf
      exact qi_ireti hC hQ hK dX6_copy_16
set_option maxRecDepth 100000 in
set_option maxHeartbeats 4000000 in
theorem t_X6_buyBy_145 {X : qaX} {l : Launch} {Y : qaY} {fin : Int32 × qaM} (hC : QC X l Y cX6_buyBy RX6 8 4) (hQ : QRi X Y (some .int) fin.2 fin.1) {m : qaM} {v1 : Int32} {v3 : Int32} {v4 : Int32} {v5 : Int32} {v6 : Int32} {z : ((qaM × Int32 × Int32) ⊕ (Int32 × qaM))} (hf : b_X6_buyBy_145 m v1 v3 v4 v5 v6 = some z) (hK : (qa_K (fun s => QG X Y 8 s.1 67 [(0, .ref (Y.2.2.1 0)), (1, .int v1), (3, .int v3), (4, .int v4), (5, .int s.2.1), (6, .int s.2.2)] []) (qa_eq fin)) z) : QG X Y 8 m 145 [(0, .ref (Y.2.2.1 0)), (1, .int v1), (3, .int v3), (4, .int v4), (5, .int v5), (6, .int v6)] [] := by
  unfold b_X6_buyBy_145 at hf
  obtain ⟨x10, ex10, hf⟩ := qa_lt_e hf
  refine qi_iinc hC (n := 1) (v := x10) 5 rfl ((congrArg (fun q => v6 + q) kn_iconst_1).trans ex10.symm) (by decide) rfl dX6_buyBy_145 ?_
  refine qi_goto (tgt := 67) hC (by decide) dX6_buyBy_148 ?_
  obtain rfl := Option.some.inj hf
  refine qi_sub hC [1, 2, 3, 4, 5, 0] rfl ?_
  exact hK
set_option maxRecDepth 100000 in
set_option maxHeartbeats 4000000 in
theorem t_X6_buyBy_67 {X : qaX} {l : Launch} {Y : qaY} {fin : Int32 × qaM} (hC : QC X l Y cX6_buyBy RX6 8 4) (hQ : QRi X Y (some .int) fin.2 fin.1) {m : qaM} {v1 : Int32} {v3 : Int32} {v4 : Int32} {v5 : Int32} {v6 : Int32} {z : ((qaM × Int32 × Int32) ⊕ (Int32 × qaM))} (hf : b_X6_buyBy_67 m v1 v3 v4 v5 v6 = some z) (hK : (qa_K (fun s => QG X Y 8 s.1 67 [(0, .ref (Y.2.2.1 0)), (1, .int v1), (3, .int v3), (4, .int v4), (5, .int s.2.1), (6, .int s.2.2)] []) (qa_eq fin)) z) : QG X Y 8 m 67 [(0, .ref (Y.2.2.1 0)), (1, .int v1), (3, .int v3), (4, .int v4), (5, .int v5), (6, .int v6)] [] := by
  unfold b_X6_buyBy_67 at hf
  refine qi_iload hC 5 rfl dX6_buyBy_67 ?_
  refine qi_iload hC 3 rfl dX6_buyBy_69 ?_
  refine qi_icmp_ge (tgt := 151) hC (by decide) dX6_buyBy_71 (fun h => ?_) (fun h => ?_)
  · replace hf := qa_if_t h hf
    refine qi_iload hC 4 rfl dX6_buyBy_151 ?_
    obtain ⟨z, rfl, hg⟩ := qa_inr_e hf; have hf := hg
    obtain rfl := Option.some.inj hf
    exact qi_ireti hC hQ hK dX6_buyBy_153
  · replace hf := qa_if_f h hf
    refine qi_iload_n hC 2 rfl rfl dX6_buyBy_74 ?_
    refine qi_iconst hC dX6_buyBy_75 kn_iconst_2 ?_
    refine qi_iload hC 5 rfl dX6_buyBy_76 ?_
    refine qi_imul hC dX6_buyBy_78 ?_
    refine qi_iadd hC dX6_buyBy_79 ?_
    obtain ⟨x4, ex4, hf⟩ := qa_lt_e hf
    refine qi_nmi hC ex4 ?_
    refine qi_istore hC (by decide) rfl dX6_buyBy_80 ?_
    refine qi_aload_n hC 1 rfl rfl dX6_buyBy_82 ?_
    refine qi_getr hC kf_X6_44 sh_0 rfl dX6_buyBy_83 ?_
    refine qi_iload_n hC 2 rfl rfl dX6_buyBy_86 ?_
    refine qi_iload hC 0 rfl dX6_buyBy_87 ?_
    obtain ⟨q5, hq5, hf⟩ := Option.bind_eq_some_iff.mp hf
    refine qi_callVi hC (as := [.int v1, .int x4]) (c_X3_isPlace _ _ _ _ _ _ hq5) kl_X6_237 sh_32 kc_X3_isPlace rfl rfl (by decide) (by decide) (Nat.le_of_ble_eq_true rfl) dX6_buyBy_89 ?_
    refine qi_if_eq (tgt := 110) hC (by decide) dX6_buyBy_92 (fun h => ?_) (fun h => ?_)
    · replace hf := qa_if_t h hf
      refine qi_bipush hC dX6_buyBy_110 kn_bipush_m12 ?_
      obtain ⟨z, rfl, hg⟩ := qa_inr_e hf; have hf := hg
      obtain rfl := Option.some.inj hf
      exact qi_ireti hC hQ hK dX6_buyBy_112
    · replace hf := qa_if_f h hf
      refine qi_aload_n hC 1 rfl rfl dX6_buyBy_95 ?_
      refine qi_getr hC kf_X6_44 sh_0 rfl dX6_buyBy_96 ?_
      refine qi_iload_n hC 2 rfl rfl dX6_buyBy_99 ?_
      refine qi_iload hC 0 rfl dX6_buyBy_100 ?_
      refine qi_iconst hC dX6_buyBy_102 kn_iconst_1 ?_
      refine qi_iadd hC dX6_buyBy_103 ?_
      obtain ⟨q6, hq6, hf⟩ := Option.bind_eq_some_iff.mp hf
      refine qi_callVi hC (as := [.int v1, .int (x4 + (1 : Int32))]) (c_X3_isPlace _ _ _ _ _ _ hq6) kl_X6_237 sh_32 kc_X3_isPlace rfl rfl (by decide) (by decide) (Nat.le_of_ble_eq_true rfl) dX6_buyBy_104 ?_
      refine qi_if_ne (tgt := 113) hC (by decide) dX6_buyBy_107 (fun h => ?_) (fun h => ?_)
      · replace hf := qa_if_f h hf
        refine qi_aload_n hC 1 rfl rfl dX6_buyBy_113 ?_
        refine qi_aload_n hC 1 rfl rfl dX6_buyBy_114 ?_
        refine qi_getr hC kf_X6_44 sh_0 rfl dX6_buyBy_115 ?_
        refine qi_iload_n hC 2 rfl rfl dX6_buyBy_118 ?_
        refine qi_iload hC 0 rfl dX6_buyBy_119 ?_
        obtain ⟨q7, hq7, hf⟩ := Option.bind_eq_some_iff.mp hf
        refine qi_callVi hC (as := [.int v1, .int x4]) (c_X3_reads _ _ _ _ _ _ hq7) kl_X6_251 sh_32 kc_X3_reads rfl rfl (by decide) (by decide) (Nat.le_of_ble_eq_true rfl) dX6_buyBy_121 ?_
        refine qi_aload_n hC 1 rfl rfl dX6_buyBy_124 ?_
        refine qi_getr hC kf_X6_44 sh_0 rfl dX6_buyBy_125 ?_
        refine qi_iload_n hC 2 rfl rfl dX6_buyBy_128 ?_
        refine qi_iload hC 0 rfl dX6_buyBy_129 ?_
        refine qi_iconst hC dX6_buyBy_131 kn_iconst_1 ?_
        refine qi_iadd hC dX6_buyBy_132 ?_
        obtain ⟨q8, hq8, hf⟩ := Option.bind_eq_some_iff.mp hf
        refine qi_callVi hC (as := [.int v1, .int (x4 + (1 : Int32))]) (c_X3_reads _ _ _ _ _ _ hq8) kl_X6_251 sh_32 kc_X3_reads rfl rfl (by decide) (by decide) (Nat.le_of_ble_eq_true rfl) dX6_buyBy_133 ?_
        obtain ⟨q9, hq9, hf⟩ := Option.bind_eq_some_iff.mp hf
        refine qi_callVi hC (as := [.int q7, .int q8]) (c_X6_buy _ _ _ _ _ _ hq9) kl_X6_254 sh_0 kc_X6_buy rfl rfl (by decide) (by decide) (Nat.le_of_ble_eq_true rfl) dX6_buyBy_136 ?_
        refine qi_if_lt (tgt := 145) hC (by decide) dX6_buyBy_139 (fun h => ?_) (fun h => ?_)
        · replace hf := qa_if_t h hf
          refine qi_sub hC [1, 2, 3, 4, 5, 6] rfl ?_
          exact t_X6_buyBy_145 hC hQ hf hK
        · replace hf := qa_if_f h hf
          obtain ⟨x11, ex11, hf⟩ := qa_lt_e hf
          refine qi_iinc hC (n := 1) (v := x11) 5 rfl ((congrArg (fun q => v5 + q) kn_iconst_1).trans ex11.symm) (by decide) rfl dX6_buyBy_142 ?_
          refine qi_sub hC [2, 3, 4, 5, 0, 6] rfl ?_
          exact t_X6_buyBy_145 hC hQ hf hK
      · replace hf := qa_if_t h hf
        refine qi_bipush hC dX6_buyBy_110 kn_bipush_m12 ?_
        obtain ⟨z, rfl, hg⟩ := qa_inr_e hf; have hf := hg
        obtain rfl := Option.some.inj hf
        exact qi_ireti hC hQ hK dX6_buyBy_112
set_option maxRecDepth 100000 in
set_option maxHeartbeats 4000000 in
theorem tn_X6_buyBy_67 {X : qaX} {l : Launch} {Y : qaY} {fin : Int32 × qaM} (hC : QC X l Y cX6_buyBy RX6 8 4) (hQ : QRi X Y (some .int) fin.2 fin.1) {v1 : Int32} {v3 : Int32} {v4 : Int32} {z : (Int32 × qaM)} (hK : (qa_eq fin) z) : ∀ (n : Nat) (s : qaM × Int32 × Int32), qa_lp (fun s => b_X6_buyBy_67 s.1 v1 v3 v4 s.2.1 s.2.2) n s = some z → QG X Y 8 s.1 67 [(0, .ref (Y.2.2.1 0)), (1, .int v1), (3, .int v3), (4, .int v4), (5, .int s.2.1), (6, .int s.2.2)] [] := by
  intro n
  induction n with
  | zero => intro s hf; cases hf
  | succ n ih =>
    intro s hf
    obtain ⟨y, hy, hf⟩ := qa_lp_e hf
    refine t_X6_buyBy_67 hC hQ hy ?_
    rcases hf with ⟨s', rfl, hf⟩ | rfl
    · exact ih s' hf
    · exact hK
set_option maxRecDepth 100000 in
set_option maxHeartbeats 4000000 in
theorem tl_X6_buyBy_67 {X : qaX} {l : Launch} {Y : qaY} {fin : Int32 × qaM} (hC : QC X l Y cX6_buyBy RX6 8 4) (hQ : QRi X Y (some .int) fin.2 fin.1) {m : qaM} {v1 : Int32} {v3 : Int32} {v4 : Int32} {v5 : Int32} {v6 : Int32} {z : (Int32 × qaM)} (hf : lp_X6_buyBy_67 m v1 v3 v4 v5 v6 = some z) (hK : (qa_eq fin) z) : QG X Y 8 m 67 [(0, .ref (Y.2.2.1 0)), (1, .int v1), (3, .int v3), (4, .int v4), (5, .int v5), (6, .int v6)] [] :=
  tn_X6_buyBy_67 hC hQ hK qa_F (m, v5, v6) hf
set_option maxRecDepth 100000 in
set_option maxHeartbeats 4000000 in
theorem c_X6_buyBy (l : Launch) (Y : qaY) (m : qaM) (v1 : Int32) (v2 : Int32) (v3 : Int32) (v4 : Int32) (q : Int32 × qaM) (hf : f_X6_buyBy m v1 v2 v3 v4 = some q) : qaMi l Y yX6_buyBy cX6_buyBy 8 (some .int) 4 [.ref (Y.2.2.1 0), .int v1, .int v2, .int v3, .int v4] m q.2 q.1 := by
  refine qa_enti (by decide +kernel) (Nat.le_of_ble_eq_true rfl) fun X hC hQ => ?_
  have hK : qa_eq q q := rfl
  unfold f_X6_buyBy at hf
  refine qi_iload_n hC 1 rfl rfl dX6_buyBy_0 ?_
  obtain ⟨q1, hq1, hf⟩ := Option.bind_eq_some_iff.mp hf
  refine qi_callSi hC (as := [.int v1]) (c_X6_isSheet _ _ _ _ _ hq1) kl_X6_211 kc_X6_isSheet rfl rfl (by decide) (by decide) (Nat.le_of_ble_eq_true rfl) dX6_buyBy_1 ?_
  refine qi_if_eq (tgt := 28) hC (by decide) dX6_buyBy_4 (fun h => ?_) (fun h => ?_)
  · replace hf := qa_if_t h hf
    refine qi_bipush hC dX6_buyBy_28 kn_bipush_m2 ?_
    obtain rfl := Option.some.inj hf
    exact qi_ireti hC hQ hK dX6_buyBy_30
  · replace hf := qa_if_f h hf
    refine qi_iload_n hC 2 rfl rfl dX6_buyBy_7 ?_
    refine qi_if_lt (tgt := 28) hC (by decide) dX6_buyBy_8 (fun h => ?_) (fun h => ?_)
    · replace hf := qa_if_t h hf
      refine qi_bipush hC dX6_buyBy_28 kn_bipush_m2 ?_
      obtain rfl := Option.some.inj hf
      exact qi_ireti hC hQ hK dX6_buyBy_30
    · replace hf := qa_if_f h hf
      refine qi_iload_n hC 2 rfl rfl dX6_buyBy_11 ?_
      refine qi_iconst hC dX6_buyBy_12 kn_iconst_2 ?_
      refine qi_icmp_gt (tgt := 28) hC (by decide) dX6_buyBy_13 (fun h => ?_) (fun h => ?_)
      · replace hf := qa_if_t h hf
        refine qi_bipush hC dX6_buyBy_28 kn_bipush_m2 ?_
        obtain rfl := Option.some.inj hf
        exact qi_ireti hC hQ hK dX6_buyBy_30
      · replace hf := qa_if_f h hf
        refine qi_iload hC 4 rfl dX6_buyBy_16 ?_
        refine qi_if_lt (tgt := 28) hC (by decide) dX6_buyBy_18 (fun h => ?_) (fun h => ?_)
        · replace hf := qa_if_t h hf
          refine qi_bipush hC dX6_buyBy_28 kn_bipush_m2 ?_
          obtain rfl := Option.some.inj hf
          exact qi_ireti hC hQ hK dX6_buyBy_30
        · replace hf := qa_if_f h hf
          refine qi_iload hC 4 rfl dX6_buyBy_21 ?_
          refine qi_bipush hC dX6_buyBy_23 kn_bipush_8 ?_
          refine qi_icmp_le (tgt := 31) hC (by decide) dX6_buyBy_25 (fun h => ?_) (fun h => ?_)
          · replace hf := qa_if_t h hf
            refine qi_aload_n hC 0 rfl rfl dX6_buyBy_31 ?_
            refine qi_getr hC kf_X6_44 sh_0 rfl dX6_buyBy_32 ?_
            refine qi_iload_n hC 1 rfl rfl dX6_buyBy_35 ?_
            obtain ⟨q2, hq2, hf⟩ := Option.bind_eq_some_iff.mp hf
            refine qi_callVi hC (as := [.int v1]) (c_X3_isMissing _ _ _ _ _ hq2) kl_X6_234 sh_32 kc_X3_isMissing rfl rfl (by decide) (by decide) (Nat.le_of_ble_eq_true rfl) dX6_buyBy_36 ?_
            refine qi_if_eq (tgt := 45) hC (by decide) dX6_buyBy_39 (fun h => ?_) (fun h => ?_)
            · replace hf := qa_if_t h hf
              refine qi_aload_n hC 0 rfl rfl dX6_buyBy_45 ?_
              refine qi_getr hC kf_X6_44 sh_0 rfl dX6_buyBy_46 ?_
              refine qi_getr hC kf_X6_240 sh_32 rfl dX6_buyBy_49 ?_
              refine qi_iload_n hC 1 rfl rfl dX6_buyBy_52 ?_
              obtain ⟨h3, hf⟩ := qa_ck_e hf
              refine qi_iald hC rfl sh_33 (qa_in_v h3) dX6_buyBy_53 ?_
              refine qi_iload_n hC 2 rfl rfl dX6_buyBy_54 ?_
              refine qi_icmp_eq (tgt := 61) hC (by decide) dX6_buyBy_55 (fun h => ?_) (fun h => ?_)
              · replace hf := qa_if_t h hf
                refine qi_iconst hC dX6_buyBy_61 kn_iconst_0 ?_
                refine qi_istore hC (by decide) rfl dX6_buyBy_62 ?_
                refine qi_iconst hC dX6_buyBy_64 kn_iconst_0 ?_
                refine qi_istore hC (by decide) rfl dX6_buyBy_65 ?_
                refine qi_sub hC [2, 3, 5, 6, 1, 0] rfl ?_
                exact tl_X6_buyBy_67 hC hQ hf hK
              · replace hf := qa_if_f h hf
                refine qi_bipush hC dX6_buyBy_58 kn_bipush_m13 ?_
                obtain rfl := Option.some.inj hf
                exact qi_ireti hC hQ hK dX6_buyBy_60
            · replace hf := qa_if_f h hf
              refine qi_bipush hC dX6_buyBy_42 kn_bipush_m11 ?_
              obtain rfl := Option.some.inj hf
              exact qi_ireti hC hQ hK dX6_buyBy_44
          · replace hf := qa_if_f h hf
            refine qi_bipush hC dX6_buyBy_28 kn_bipush_m2 ?_
            obtain rfl := Option.some.inj hf
            exact qi_ireti hC hQ hK dX6_buyBy_30
set_option maxRecDepth 100000 in
set_option maxHeartbeats 4000000 in
theorem c_X6_taken (l : Launch) (Y : qaY) (m : qaM) (v1 : Int32) (v2 : Int32) (q : Int32) (hf : f_X6_taken m v1 v2 = some q) : qaMi l Y yX6_taken cX6_taken 4 (some .int) 3 [.ref (Y.2.2.1 0), .int v1, .int v2] m m q := by
  refine qa_enti (by decide +kernel) (Nat.le_of_ble_eq_true rfl) fun X hC hQ => ?_
  have hK : qa_eq q q := rfl
  unfold f_X6_taken at hf
  refine qi_iload_n hC 2 rfl rfl dX6_taken_0 ?_
  refine qi_if_lt (tgt := 10) hC (by decide) dX6_taken_1 (fun h => ?_) (fun h => ?_)
  · replace hf := qa_if_t h hf
    refine qi_bipush hC dX6_taken_10 kn_bipush_m2 ?_
    obtain rfl := Option.some.inj hf
    exact qi_ireti hC hQ (congrArg (fun w => (w, m)) hK) dX6_taken_12
  · replace hf := qa_if_f h hf
    refine qi_iload_n hC 2 rfl rfl dX6_taken_4 ?_
    refine qi_bipush hC dX6_taken_5 kn_bipush_6 ?_
    refine qi_icmp_le (tgt := 13) hC (by decide) dX6_taken_7 (fun h => ?_) (fun h => ?_)
    · replace hf := qa_if_t h hf
      refine qi_iload_n hC 1 rfl rfl dX6_taken_13 ?_
      refine qi_if_lt (tgt := 23) hC (by decide) dX6_taken_14 (fun h => ?_) (fun h => ?_)
      · replace hf := qa_if_t h hf
        refine qi_bipush hC dX6_taken_23 kn_bipush_m12 ?_
        obtain rfl := Option.some.inj hf
        exact qi_ireti hC hQ (congrArg (fun w => (w, m)) hK) dX6_taken_25
      · replace hf := qa_if_f h hf
        refine qi_iload_n hC 1 rfl rfl dX6_taken_17 ?_
        refine qi_bipush hC dX6_taken_18 kn_bipush_16 ?_
        refine qi_icmp_lt (tgt := 26) hC (by decide) dX6_taken_20 (fun h => ?_) (fun h => ?_)
        · replace hf := qa_if_t h hf
          refine qi_iload_n hC 1 rfl rfl dX6_taken_26 ?_
          refine qi_bipush hC dX6_taken_27 kn_bipush_8 ?_
          refine qi_icmp_lt (tgt := 72) hC (by decide) dX6_taken_29 (fun h => ?_) (fun h => ?_)
          · replace hf := qa_if_t h hf
            refine qi_aload_n hC 0 rfl rfl dX6_taken_72 ?_
            refine qi_getr hC kf_X6_28 sh_0 rfl dX6_taken_73 ?_
            refine qi_getr hC kf_X6_62 sh_8 rfl dX6_taken_76 ?_
            refine qi_iload_n hC 1 rfl rfl dX6_taken_79 ?_
            obtain ⟨q1, hq1, hf⟩ := Option.bind_eq_some_iff.mp hf
            refine qi_callVi hC (as := [.int v1]) (c_X2_isPlace _ _ hou_8.2.2.1 _ _ _ hq1) kl_X6_137 sh_11 kc_X2_isPlace rfl rfl (by decide) (by decide) (Nat.le_of_ble_eq_true rfl) dX6_taken_80 ?_
            refine qi_if_ne (tgt := 89) hC (by decide) dX6_taken_83 (fun h => ?_) (fun h => ?_)
            · replace hf := qa_if_f h hf
              refine qi_aload_n hC 0 rfl rfl dX6_taken_89 ?_
              refine qi_getr hC kf_X6_28 sh_0 rfl dX6_taken_90 ?_
              refine qi_getr hC kf_X6_62 sh_8 rfl dX6_taken_93 ?_
              refine qi_iload_n hC 1 rfl rfl dX6_taken_96 ?_
              obtain ⟨q2, hq2, hf⟩ := Option.bind_eq_some_iff.mp hf
              refine qi_callVi hC (as := [.int v1]) (c_X2_at _ _ hou_8.2.2.1 _ _ _ hq2) kl_X6_140 sh_11 kc_X2_at rfl rfl (by decide) (by decide) (Nat.le_of_ble_eq_true rfl) dX6_taken_97 ?_
              refine qi_istore_n hC rfl (by decide) rfl dX6_taken_100 ?_
              refine qi_iload_n hC 3 rfl rfl dX6_taken_101 ?_
              refine qi_bipush hC dX6_taken_102 kn_bipush_6 ?_
              refine qi_icmp_eq (tgt := 126) hC (by decide) dX6_taken_104 (fun h => ?_) (fun h => ?_)
              · replace hf := qa_if_t h hf
                refine qi_bipush hC dX6_taken_126 kn_bipush_m13 ?_
                obtain rfl := Option.some.inj hf
                exact qi_ireti hC hQ (congrArg (fun w => (w, m)) hK) dX6_taken_128
              · replace hf := qa_if_f h hf
                refine qi_aload_n hC 1 rfl rfl dX6_taken_107 ?_
                refine qi_getr hC kf_X6_28 sh_0 rfl dX6_taken_108 ?_
                refine qi_getr hC kf_X6_52 sh_8 rfl dX6_taken_111 ?_
                refine qi_iload_n hC 0 rfl rfl dX6_taken_114 ?_
                refine qi_iload_n hC 3 rfl rfl dX6_taken_115 ?_
                obtain ⟨q3, hq3, hf⟩ := Option.bind_eq_some_iff.mp hf
                refine qi_callVi hC (as := [.int q2, .int v2]) (c_X1_isOne _ _ hou_8.2.1 _ _ _ _ hq3) kl_X6_257 sh_9 kc_X1_isOne rfl rfl (by decide) (by decide) (Nat.le_of_ble_eq_true rfl) dX6_taken_116 ?_
                refine qi_if_eq (tgt := 126) hC (by decide) dX6_taken_119 (fun h => ?_) (fun h => ?_)
                · replace hf := qa_if_t h hf
                  refine qi_bipush hC dX6_taken_126 kn_bipush_m13 ?_
                  obtain rfl := Option.some.inj hf
                  exact qi_ireti hC hQ (congrArg (fun w => (w, m)) hK) dX6_taken_128
                · replace hf := qa_if_f h hf
                  refine qi_iload_n hC 0 rfl rfl dX6_taken_122 ?_
                  refine qi_goto (tgt := 128) hC (by decide) dX6_taken_123 ?_
                  obtain rfl := Option.some.inj hf
                  exact qi_ireti hC hQ (congrArg (fun w => (w, m)) hK) dX6_taken_128
            · replace hf := qa_if_t h hf
              refine qi_bipush hC dX6_taken_86 kn_bipush_m11 ?_
              obtain rfl := Option.some.inj hf
              exact qi_ireti hC hQ (congrArg (fun w => (w, m)) hK) dX6_taken_88
          · replace hf := qa_if_f h hf
            refine qi_iload_n hC 1 rfl rfl dX6_taken_32 ?_
            refine qi_bipush hC dX6_taken_33 kn_bipush_8 ?_
            refine qi_isub hC dX6_taken_35 ?_
            obtain ⟨x4, ex4, hf⟩ := qa_lt_e hf
            refine qi_nmi hC ex4 ?_
            refine qi_istore_n hC rfl (by decide) rfl dX6_taken_36 ?_
            refine qi_aload_n hC 1 rfl rfl dX6_taken_37 ?_
            refine qi_iload_n hC 0 rfl rfl dX6_taken_38 ?_
            obtain ⟨q5, hq5, hf⟩ := Option.bind_eq_some_iff.mp hf
            refine qi_callVi hC (as := [.int x4]) (c_X6_isLinen _ _ _ _ _ hq5) kl_X6_123 sh_0 kc_X6_isLinen rfl rfl (by decide) (by decide) (Nat.le_of_ble_eq_true rfl) dX6_taken_39 ?_
            refine qi_if_ne (tgt := 48) hC (by decide) dX6_taken_42 (fun h => ?_) (fun h => ?_)
            · replace hf := qa_if_f h hf
              refine qi_iload_n hC 3 rfl rfl dX6_taken_48 ?_
              refine qi_bipush hC dX6_taken_49 kn_bipush_6 ?_
              refine qi_icmp_ne (tgt := 69) hC (by decide) dX6_taken_51 (fun h => ?_) (fun h => ?_)
              · replace hf := qa_if_f h hf
                refine qi_bipush hC dX6_taken_69 kn_bipush_m13 ?_
                obtain rfl := Option.some.inj hf
                exact qi_ireti hC hQ (congrArg (fun w => (w, m)) hK) dX6_taken_71
              · replace hf := qa_if_t h hf
                refine qi_aload_n hC 1 rfl rfl dX6_taken_54 ?_
                refine qi_getr hC kf_X6_28 sh_0 rfl dX6_taken_55 ?_
                refine qi_getr hC kf_X6_52 sh_8 rfl dX6_taken_58 ?_
                refine qi_iload_n hC 0 rfl rfl dX6_taken_61 ?_
                refine qi_iconst hC dX6_taken_62 kn_iconst_2 ?_
                obtain ⟨q6, hq6, hf⟩ := Option.bind_eq_some_iff.mp hf
                refine qi_callVi hC (as := [.int x4, .int (2 : Int32)]) (c_X1_fact _ _ hou_8.2.1 _ _ _ _ hq6) kl_X6_130 sh_9 kc_X1_fact rfl rfl (by decide) (by decide) (Nat.le_of_ble_eq_true rfl) dX6_taken_63 ?_
                refine qi_goto (tgt := 71) hC (by decide) dX6_taken_66 ?_
                obtain rfl := Option.some.inj hf
                exact qi_ireti hC hQ (congrArg (fun w => (w, m)) hK) dX6_taken_71
            · replace hf := qa_if_t h hf
              refine qi_bipush hC dX6_taken_45 kn_bipush_m11 ?_
              obtain rfl := Option.some.inj hf
              exact qi_ireti hC hQ (congrArg (fun w => (w, m)) hK) dX6_taken_47
        · replace hf := qa_if_f h hf
          refine qi_bipush hC dX6_taken_23 kn_bipush_m12 ?_
          obtain rfl := Option.some.inj hf
          exact qi_ireti hC hQ (congrArg (fun w => (w, m)) hK) dX6_taken_25
    · replace hf := qa_if_f h hf
      refine qi_bipush hC dX6_taken_10 kn_bipush_m2 ?_
      obtain rfl := Option.some.inj hf
      exact qi_ireti hC hQ (congrArg (fun w => (w, m)) hK) dX6_taken_12
