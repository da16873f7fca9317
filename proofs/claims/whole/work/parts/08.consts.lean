/-! CONSTANTS -/
theorem kn_bipush_m100 : (Int8.ofInt (-100)).toInt32 = (-100 : Int32) := by decide
theorem kn_bipush_m42 : (Int8.ofInt (-42)).toInt32 = (-42 : Int32) := by decide
theorem kn_bipush_m14 : (Int8.ofInt (-14)).toInt32 = (-14 : Int32) := by decide
theorem kn_bipush_m13 : (Int8.ofInt (-13)).toInt32 = (-13 : Int32) := by decide
theorem kn_bipush_m12 : (Int8.ofInt (-12)).toInt32 = (-12 : Int32) := by decide
theorem kn_bipush_m11 : (Int8.ofInt (-11)).toInt32 = (-11 : Int32) := by decide
theorem kn_bipush_m7 : (Int8.ofInt (-7)).toInt32 = (-7 : Int32) := by decide
theorem kn_bipush_m6 : (Int8.ofInt (-6)).toInt32 = (-6 : Int32) := by decide
theorem kn_bipush_m5 : (Int8.ofInt (-5)).toInt32 = (-5 : Int32) := by decide
theorem kn_bipush_m4 : (Int8.ofInt (-4)).toInt32 = (-4 : Int32) := by decide
theorem kn_bipush_m3 : (Int8.ofInt (-3)).toInt32 = (-3 : Int32) := by decide
theorem kn_bipush_m2 : (Int8.ofInt (-2)).toInt32 = (-2 : Int32) := by decide
theorem kn_bipush_6 : (Int8.ofInt (6)).toInt32 = (6 : Int32) := by decide
theorem kn_bipush_7 : (Int8.ofInt (7)).toInt32 = (7 : Int32) := by decide
theorem kn_bipush_8 : (Int8.ofInt (8)).toInt32 = (8 : Int32) := by decide
theorem kn_bipush_9 : (Int8.ofInt (9)).toInt32 = (9 : Int32) := by decide
theorem kn_bipush_10 : (Int8.ofInt (10)).toInt32 = (10 : Int32) := by decide
theorem kn_bipush_11 : (Int8.ofInt (11)).toInt32 = (11 : Int32) := by decide
theorem kn_bipush_12 : (Int8.ofInt (12)).toInt32 = (12 : Int32) := by decide
theorem kn_bipush_13 : (Int8.ofInt (13)).toInt32 = (13 : Int32) := by decide
theorem kn_bipush_14 : (Int8.ofInt (14)).toInt32 = (14 : Int32) := by decide
theorem kn_bipush_15 : (Int8.ofInt (15)).toInt32 = (15 : Int32) := by decide
theorem kn_bipush_16 : (Int8.ofInt (16)).toInt32 = (16 : Int32) := by decide
theorem kn_bipush_17 : (Int8.ofInt (17)).toInt32 = (17 : Int32) := by decide
theorem kn_bipush_18 : (Int8.ofInt (18)).toInt32 = (18 : Int32) := by decide
theorem kn_bipush_19 : (Int8.ofInt (19)).toInt32 = (19 : Int32) := by decide
theorem kn_bipush_20 : (Int8.ofInt (20)).toInt32 = (20 : Int32) := by decide
theorem kn_bipush_30 : (Int8.ofInt (30)).toInt32 = (30 : Int32) := by decide
theorem kn_bipush_32 : (Int8.ofInt (32)).toInt32 = (32 : Int32) := by decide
theorem kn_bipush_33 : (Int8.ofInt (33)).toInt32 = (33 : Int32) := by decide
theorem kn_bipush_40 : (Int8.ofInt (40)).toInt32 = (40 : Int32) := by decide
theorem kn_bipush_41 : (Int8.ofInt (41)).toInt32 = (41 : Int32) := by decide
theorem kn_bipush_42 : (Int8.ofInt (42)).toInt32 = (42 : Int32) := by decide
theorem kn_bipush_43 : (Int8.ofInt (43)).toInt32 = (43 : Int32) := by decide
theorem kn_bipush_45 : (Int8.ofInt (45)).toInt32 = (45 : Int32) := by decide
theorem kn_bipush_48 : (Int8.ofInt (48)).toInt32 = (48 : Int32) := by decide
theorem kn_bipush_56 : (Int8.ofInt (56)).toInt32 = (56 : Int32) := by decide
theorem kn_bipush_57 : (Int8.ofInt (57)).toInt32 = (57 : Int32) := by decide
theorem kn_bipush_59 : (Int8.ofInt (59)).toInt32 = (59 : Int32) := by decide
theorem kn_bipush_60 : (Int8.ofInt (60)).toInt32 = (60 : Int32) := by decide
theorem kn_bipush_61 : (Int8.ofInt (61)).toInt32 = (61 : Int32) := by decide
theorem kn_bipush_64 : (Int8.ofInt (64)).toInt32 = (64 : Int32) := by decide
theorem kn_bipush_91 : (Int8.ofInt (91)).toInt32 = (91 : Int32) := by decide
theorem kn_bipush_97 : (Int8.ofInt (97)).toInt32 = (97 : Int32) := by decide
theorem kn_bipush_99 : (Int8.ofInt (99)).toInt32 = (99 : Int32) := by decide
theorem kn_bipush_100 : (Int8.ofInt (100)).toInt32 = (100 : Int32) := by decide
theorem kn_bipush_122 : (Int8.ofInt (122)).toInt32 = (122 : Int32) := by decide
theorem kn_iconst_m1 : Int32.ofInt (-1) = (-1 : Int32) := by decide
theorem kn_iconst_0 : Int32.ofInt (0) = (0 : Int32) := by decide
theorem kn_iconst_1 : Int32.ofInt (1) = (1 : Int32) := by decide
theorem kn_iconst_2 : Int32.ofInt (2) = (2 : Int32) := by decide
theorem kn_iconst_3 : Int32.ofInt (3) = (3 : Int32) := by decide
theorem kn_iconst_4 : Int32.ofInt (4) = (4 : Int32) := by decide
theorem kn_iconst_5 : Int32.ofInt (5) = (5 : Int32) := by decide
theorem kn_sipush_m305 : (Int16.ofInt (-305)).toInt32 = (-305 : Int32) := by decide
theorem kn_sipush_m304 : (Int16.ofInt (-304)).toInt32 = (-304 : Int32) := by decide
theorem kn_sipush_m303 : (Int16.ofInt (-303)).toInt32 = (-303 : Int32) := by decide
theorem kn_sipush_m200 : (Int16.ofInt (-200)).toInt32 = (-200 : Int32) := by decide
theorem kn_sipush_150 : (Int16.ofInt (150)).toInt32 = (150 : Int32) := by decide
theorem kn_sipush_160 : (Int16.ofInt (160)).toInt32 = (160 : Int32) := by decide
theorem kn_sipush_200 : (Int16.ofInt (200)).toInt32 = (200 : Int32) := by decide
theorem kn_sipush_201 : (Int16.ofInt (201)).toInt32 = (201 : Int32) := by decide
theorem kn_sipush_255 : (Int16.ofInt (255)).toInt32 = (255 : Int32) := by decide
theorem kn_sipush_300 : (Int16.ofInt (300)).toInt32 = (300 : Int32) := by decide
theorem kn_sipush_303 : (Int16.ofInt (303)).toInt32 = (303 : Int32) := by decide
theorem kn_sipush_304 : (Int16.ofInt (304)).toInt32 = (304 : Int32) := by decide
theorem kn_sipush_305 : (Int16.ofInt (305)).toInt32 = (305 : Int32) := by decide
theorem kn_sipush_306 : (Int16.ofInt (306)).toInt32 = (306 : Int32) := by decide
theorem kn_sipush_312 : (Int16.ofInt (312)).toInt32 = (312 : Int32) := by decide
theorem kn_sipush_400 : (Int16.ofInt (400)).toInt32 = (400 : Int32) := by decide
theorem kn_sipush_500 : (Int16.ofInt (500)).toInt32 = (500 : Int32) := by decide
theorem kn_sipush_999 : (Int16.ofInt (999)).toInt32 = (999 : Int32) := by decide
theorem kn_sipush_1003 : (Int16.ofInt (1003)).toInt32 = (1003 : Int32) := by decide
theorem kn_sipush_3099 : (Int16.ofInt (3099)).toInt32 = (3099 : Int32) := by decide
theorem tn_0 : (0 : Int32).toNatClampNeg = 0 := by decide
theorem tn_1 : (1 : Int32).toNatClampNeg = 1 := by decide
theorem tn_2 : (2 : Int32).toNatClampNeg = 2 := by decide
theorem tn_3 : (3 : Int32).toNatClampNeg = 3 := by decide
theorem tn_4 : (4 : Int32).toNatClampNeg = 4 := by decide
theorem tn_5 : (5 : Int32).toNatClampNeg = 5 := by decide
theorem vi_0_4 : vp_in (0 : Int32) 4 := by unfold vp_in; decide
theorem vi_0_6 : vp_in (0 : Int32) 6 := by unfold vp_in; decide
theorem vi_0_9 : vp_in (0 : Int32) 9 := by unfold vp_in; decide
theorem vi_0_160 : vp_in (0 : Int32) 160 := by unfold vp_in; decide
theorem vi_0_200 : vp_in (0 : Int32) 200 := by unfold vp_in; decide
theorem vi_1_4 : vp_in (1 : Int32) 4 := by unfold vp_in; decide
theorem vi_1_6 : vp_in (1 : Int32) 6 := by unfold vp_in; decide
theorem vi_2_4 : vp_in (2 : Int32) 4 := by unfold vp_in; decide
theorem vi_2_6 : vp_in (2 : Int32) 6 := by unfold vp_in; decide
theorem vi_3_4 : vp_in (3 : Int32) 4 := by unfold vp_in; decide
theorem vi_3_6 : vp_in (3 : Int32) 6 := by unfold vp_in; decide
theorem vi_4_6 : vp_in (4 : Int32) 6 := by unfold vp_in; decide
theorem vi_5_6 : vp_in (5 : Int32) 6 := by unfold vp_in; decide
def qaRec (l : Launch) (Y : qaY) (rec : Nat → qaM → Int32 → Option (Int32 × qaM)) (dd : Nat) : Prop :=
  (∀ (m : qaM) (o : Int32) (q : Int32 × qaM), rec 0 m o = some q → qaMi l Y yX4_readsEither cX4_readsEither 5 (some .boolean) (dd + 7) [.ref (Y.2.2.1 6), .ref (Y.2.2.1 1), .int o] m q.2 q.1) ∧
  (∀ (m : qaM) (o : Int32) (q : Int32 × qaM), rec 1 m o = some q → qaMi l Y yX4_readsBoth cX4_readsBoth 5 (some .boolean) (dd + 7) [.ref (Y.2.2.1 6), .ref (Y.2.2.1 1), .int o] m q.2 q.1) ∧
  (∀ (m : qaM) (o : Int32) (q : Int32 × qaM), rec 2 m o = some q → qaMi l Y yX4_readsNot cX4_readsNot 5 (some .boolean) (dd + 7) [.ref (Y.2.2.1 6), .ref (Y.2.2.1 1), .int o] m q.2 q.1) ∧
  (∀ (m : qaM) (o : Int32) (q : Int32 × qaM), rec 3 m o = some q → qaMi l Y yX4_readsSum cX4_readsSum 6 (some .boolean) (dd + 7) [.ref (Y.2.2.1 6), .ref (Y.2.2.1 1), .int o] m q.2 q.1) ∧
  (∀ (m : qaM) (o : Int32) (q : Int32 × qaM), rec 4 m o = some q → qaMi l Y yX4_readsTerm cX4_readsTerm 5 (some .boolean) (dd + 7) [.ref (Y.2.2.1 6), .ref (Y.2.2.1 1), .int o] m q.2 q.1) ∧
  (∀ (m : qaM) (o : Int32) (q : Int32 × qaM), rec 5 m o = some q → qaMi l Y yX4_readsOne cX4_readsOne 4 (some .boolean) (dd + 7) [.ref (Y.2.2.1 6), .ref (Y.2.2.1 1), .int o] m q.2 q.1)
