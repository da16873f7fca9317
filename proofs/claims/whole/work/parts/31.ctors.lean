/-! CONSTRUCTORS, laid by program -/
theorem om_inst : Cond.instanceMethod objectInit ∈ qaWL := qa_at1 21 (by decide +kernel) rfl
theorem om_code : Cond.code objectInit ⟨#[0xb1]⟩ 1 none ∈ qaWL := qa_at1 22 rfl rfl
theorem om_arr : Cond.arrayClass (newarray.typeOf .int) ∈ qaWL := qa_at1 49 (by decide +kernel) rfl
theorem kq_bipush_6 : (Int8.ofInt (6)).toInt32 = (6 : Int32) := by decide
theorem kq_bipush_7 : (Int8.ofInt (7)).toInt32 = (7 : Int32) := by decide
theorem kq_bipush_8 : (Int8.ofInt (8)).toInt32 = (8 : Int32) := by decide
theorem kq_bipush_9 : (Int8.ofInt (9)).toInt32 = (9 : Int32) := by decide
theorem kq_bipush_10 : (Int8.ofInt (10)).toInt32 = (10 : Int32) := by decide
theorem kq_bipush_11 : (Int8.ofInt (11)).toInt32 = (11 : Int32) := by decide
theorem kq_bipush_12 : (Int8.ofInt (12)).toInt32 = (12 : Int32) := by decide
theorem kq_bipush_13 : (Int8.ofInt (13)).toInt32 = (13 : Int32) := by decide
theorem kq_bipush_14 : (Int8.ofInt (14)).toInt32 = (14 : Int32) := by decide
theorem kq_bipush_15 : (Int8.ofInt (15)).toInt32 = (15 : Int32) := by decide
theorem kq_bipush_16 : (Int8.ofInt (16)).toInt32 = (16 : Int32) := by decide
theorem kq_bipush_17 : (Int8.ofInt (17)).toInt32 = (17 : Int32) := by decide
theorem kq_bipush_18 : (Int8.ofInt (18)).toInt32 = (18 : Int32) := by decide
theorem kq_bipush_19 : (Int8.ofInt (19)).toInt32 = (19 : Int32) := by decide
theorem kq_bipush_20 : (Int8.ofInt (20)).toInt32 = (20 : Int32) := by decide
theorem kq_bipush_21 : (Int8.ofInt (21)).toInt32 = (21 : Int32) := by decide
theorem kq_bipush_22 : (Int8.ofInt (22)).toInt32 = (22 : Int32) := by decide
theorem kq_bipush_23 : (Int8.ofInt (23)).toInt32 = (23 : Int32) := by decide
theorem kq_bipush_24 : (Int8.ofInt (24)).toInt32 = (24 : Int32) := by decide
theorem kq_bipush_25 : (Int8.ofInt (25)).toInt32 = (25 : Int32) := by decide
theorem kq_bipush_26 : (Int8.ofInt (26)).toInt32 = (26 : Int32) := by decide
theorem kq_bipush_27 : (Int8.ofInt (27)).toInt32 = (27 : Int32) := by decide
theorem kq_bipush_28 : (Int8.ofInt (28)).toInt32 = (28 : Int32) := by decide
theorem kq_bipush_29 : (Int8.ofInt (29)).toInt32 = (29 : Int32) := by decide
theorem kq_bipush_30 : (Int8.ofInt (30)).toInt32 = (30 : Int32) := by decide
theorem kq_bipush_31 : (Int8.ofInt (31)).toInt32 = (31 : Int32) := by decide
theorem kq_bipush_32 : (Int8.ofInt (32)).toInt32 = (32 : Int32) := by decide
theorem kq_bipush_33 : (Int8.ofInt (33)).toInt32 = (33 : Int32) := by decide
theorem kq_bipush_34 : (Int8.ofInt (34)).toInt32 = (34 : Int32) := by decide
theorem kq_bipush_35 : (Int8.ofInt (35)).toInt32 = (35 : Int32) := by decide
theorem kq_bipush_36 : (Int8.ofInt (36)).toInt32 = (36 : Int32) := by decide
theorem kq_bipush_37 : (Int8.ofInt (37)).toInt32 = (37 : Int32) := by decide
theorem kq_bipush_38 : (Int8.ofInt (38)).toInt32 = (38 : Int32) := by decide
theorem kq_bipush_39 : (Int8.ofInt (39)).toInt32 = (39 : Int32) := by decide
theorem kq_bipush_40 : (Int8.ofInt (40)).toInt32 = (40 : Int32) := by decide
theorem kq_bipush_41 : (Int8.ofInt (41)).toInt32 = (41 : Int32) := by decide
theorem kq_bipush_42 : (Int8.ofInt (42)).toInt32 = (42 : Int32) := by decide
theorem kq_bipush_43 : (Int8.ofInt (43)).toInt32 = (43 : Int32) := by decide
theorem kq_bipush_44 : (Int8.ofInt (44)).toInt32 = (44 : Int32) := by decide
theorem kq_bipush_45 : (Int8.ofInt (45)).toInt32 = (45 : Int32) := by decide
theorem kq_bipush_46 : (Int8.ofInt (46)).toInt32 = (46 : Int32) := by decide
theorem kq_bipush_47 : (Int8.ofInt (47)).toInt32 = (47 : Int32) := by decide
theorem kq_bipush_48 : (Int8.ofInt (48)).toInt32 = (48 : Int32) := by decide
theorem kq_bipush_49 : (Int8.ofInt (49)).toInt32 = (49 : Int32) := by decide
theorem kq_bipush_50 : (Int8.ofInt (50)).toInt32 = (50 : Int32) := by decide
theorem kq_bipush_51 : (Int8.ofInt (51)).toInt32 = (51 : Int32) := by decide
theorem kq_bipush_52 : (Int8.ofInt (52)).toInt32 = (52 : Int32) := by decide
theorem kq_bipush_53 : (Int8.ofInt (53)).toInt32 = (53 : Int32) := by decide
theorem kq_bipush_54 : (Int8.ofInt (54)).toInt32 = (54 : Int32) := by decide
theorem kq_bipush_55 : (Int8.ofInt (55)).toInt32 = (55 : Int32) := by decide
theorem kq_bipush_56 : (Int8.ofInt (56)).toInt32 = (56 : Int32) := by decide
theorem kq_bipush_57 : (Int8.ofInt (57)).toInt32 = (57 : Int32) := by decide
theorem kq_bipush_58 : (Int8.ofInt (58)).toInt32 = (58 : Int32) := by decide
theorem kq_bipush_59 : (Int8.ofInt (59)).toInt32 = (59 : Int32) := by decide
theorem kq_bipush_60 : (Int8.ofInt (60)).toInt32 = (60 : Int32) := by decide
theorem kq_bipush_61 : (Int8.ofInt (61)).toInt32 = (61 : Int32) := by decide
theorem kq_bipush_62 : (Int8.ofInt (62)).toInt32 = (62 : Int32) := by decide
theorem kq_bipush_63 : (Int8.ofInt (63)).toInt32 = (63 : Int32) := by decide
theorem kq_bipush_64 : (Int8.ofInt (64)).toInt32 = (64 : Int32) := by decide
theorem kq_bipush_65 : (Int8.ofInt (65)).toInt32 = (65 : Int32) := by decide
theorem kq_bipush_66 : (Int8.ofInt (66)).toInt32 = (66 : Int32) := by decide
theorem kq_bipush_67 : (Int8.ofInt (67)).toInt32 = (67 : Int32) := by decide
theorem kq_bipush_68 : (Int8.ofInt (68)).toInt32 = (68 : Int32) := by decide
theorem kq_bipush_69 : (Int8.ofInt (69)).toInt32 = (69 : Int32) := by decide
theorem kq_bipush_70 : (Int8.ofInt (70)).toInt32 = (70 : Int32) := by decide
theorem kq_bipush_71 : (Int8.ofInt (71)).toInt32 = (71 : Int32) := by decide
theorem kq_bipush_72 : (Int8.ofInt (72)).toInt32 = (72 : Int32) := by decide
theorem kq_bipush_73 : (Int8.ofInt (73)).toInt32 = (73 : Int32) := by decide
theorem kq_bipush_74 : (Int8.ofInt (74)).toInt32 = (74 : Int32) := by decide
theorem kq_bipush_75 : (Int8.ofInt (75)).toInt32 = (75 : Int32) := by decide
theorem kq_bipush_76 : (Int8.ofInt (76)).toInt32 = (76 : Int32) := by decide
theorem kq_bipush_77 : (Int8.ofInt (77)).toInt32 = (77 : Int32) := by decide
theorem kq_bipush_78 : (Int8.ofInt (78)).toInt32 = (78 : Int32) := by decide
theorem kq_bipush_79 : (Int8.ofInt (79)).toInt32 = (79 : Int32) := by decide
theorem kq_bipush_80 : (Int8.ofInt (80)).toInt32 = (80 : Int32) := by decide
theorem kq_bipush_81 : (Int8.ofInt (81)).toInt32 = (81 : Int32) := by decide
theorem kq_bipush_82 : (Int8.ofInt (82)).toInt32 = (82 : Int32) := by decide
theorem kq_bipush_83 : (Int8.ofInt (83)).toInt32 = (83 : Int32) := by decide
theorem kq_bipush_84 : (Int8.ofInt (84)).toInt32 = (84 : Int32) := by decide
theorem kq_bipush_85 : (Int8.ofInt (85)).toInt32 = (85 : Int32) := by decide
theorem kq_bipush_86 : (Int8.ofInt (86)).toInt32 = (86 : Int32) := by decide
theorem kq_bipush_87 : (Int8.ofInt (87)).toInt32 = (87 : Int32) := by decide
theorem kq_bipush_88 : (Int8.ofInt (88)).toInt32 = (88 : Int32) := by decide
theorem kq_bipush_89 : (Int8.ofInt (89)).toInt32 = (89 : Int32) := by decide
theorem kq_bipush_90 : (Int8.ofInt (90)).toInt32 = (90 : Int32) := by decide
theorem kq_bipush_91 : (Int8.ofInt (91)).toInt32 = (91 : Int32) := by decide
theorem kq_bipush_92 : (Int8.ofInt (92)).toInt32 = (92 : Int32) := by decide
theorem kq_bipush_93 : (Int8.ofInt (93)).toInt32 = (93 : Int32) := by decide
theorem kq_bipush_94 : (Int8.ofInt (94)).toInt32 = (94 : Int32) := by decide
theorem kq_bipush_95 : (Int8.ofInt (95)).toInt32 = (95 : Int32) := by decide
theorem kq_bipush_96 : (Int8.ofInt (96)).toInt32 = (96 : Int32) := by decide
theorem kq_bipush_97 : (Int8.ofInt (97)).toInt32 = (97 : Int32) := by decide
theorem kq_bipush_99 : (Int8.ofInt (99)).toInt32 = (99 : Int32) := by decide
theorem kq_bipush_100 : (Int8.ofInt (100)).toInt32 = (100 : Int32) := by decide
theorem kq_bipush_101 : (Int8.ofInt (101)).toInt32 = (101 : Int32) := by decide
theorem kq_bipush_105 : (Int8.ofInt (105)).toInt32 = (105 : Int32) := by decide
theorem kq_bipush_107 : (Int8.ofInt (107)).toInt32 = (107 : Int32) := by decide
theorem kq_bipush_108 : (Int8.ofInt (108)).toInt32 = (108 : Int32) := by decide
theorem kq_bipush_109 : (Int8.ofInt (109)).toInt32 = (109 : Int32) := by decide
theorem kq_bipush_110 : (Int8.ofInt (110)).toInt32 = (110 : Int32) := by decide
theorem kq_bipush_111 : (Int8.ofInt (111)).toInt32 = (111 : Int32) := by decide
theorem kq_bipush_114 : (Int8.ofInt (114)).toInt32 = (114 : Int32) := by decide
theorem kq_bipush_115 : (Int8.ofInt (115)).toInt32 = (115 : Int32) := by decide
theorem kq_bipush_116 : (Int8.ofInt (116)).toInt32 = (116 : Int32) := by decide
theorem kq_bipush_117 : (Int8.ofInt (117)).toInt32 = (117 : Int32) := by decide
theorem kq_bipush_119 : (Int8.ofInt (119)).toInt32 = (119 : Int32) := by decide
theorem kq_bipush_121 : (Int8.ofInt (121)).toInt32 = (121 : Int32) := by decide
theorem kq_iconst_m1 : Int32.ofInt (-1) = (-1 : Int32) := by decide
theorem kq_iconst_0 : Int32.ofInt (0) = (0 : Int32) := by decide
theorem kq_iconst_1 : Int32.ofInt (1) = (1 : Int32) := by decide
theorem kq_iconst_2 : Int32.ofInt (2) = (2 : Int32) := by decide
theorem kq_iconst_3 : Int32.ofInt (3) = (3 : Int32) := by decide
theorem kq_iconst_4 : Int32.ofInt (4) = (4 : Int32) := by decide
theorem kq_iconst_5 : Int32.ofInt (5) = (5 : Int32) := by decide
theorem kq_sipush_160 : (Int16.ofInt (160)).toInt32 = (160 : Int32) := by decide
theorem kq_sipush_200 : (Int16.ofInt (200)).toInt32 = (200 : Int32) := by decide
theorem kq_sipush_960 : (Int16.ofInt (960)).toInt32 = (960 : Int32) := by decide
theorem kq_sipush_1200 : (Int16.ofInt (1200)).toInt32 = (1200 : Int32) := by decide
theorem tc_0 : (0 : Int32).toNatClampNeg = 0 := by decide
theorem tc_1 : (1 : Int32).toNatClampNeg = 1 := by decide
theorem tc_2 : (2 : Int32).toNatClampNeg = 2 := by decide
theorem tc_3 : (3 : Int32).toNatClampNeg = 3 := by decide
theorem tc_4 : (4 : Int32).toNatClampNeg = 4 := by decide
theorem tc_5 : (5 : Int32).toNatClampNeg = 5 := by decide
theorem tc_6 : (6 : Int32).toNatClampNeg = 6 := by decide
theorem tc_7 : (7 : Int32).toNatClampNeg = 7 := by decide
theorem tc_8 : (8 : Int32).toNatClampNeg = 8 := by decide
theorem tc_9 : (9 : Int32).toNatClampNeg = 9 := by decide
theorem tc_10 : (10 : Int32).toNatClampNeg = 10 := by decide
theorem tc_11 : (11 : Int32).toNatClampNeg = 11 := by decide
theorem tc_12 : (12 : Int32).toNatClampNeg = 12 := by decide
theorem tc_13 : (13 : Int32).toNatClampNeg = 13 := by decide
theorem tc_14 : (14 : Int32).toNatClampNeg = 14 := by decide
theorem tc_15 : (15 : Int32).toNatClampNeg = 15 := by decide
theorem tc_16 : (16 : Int32).toNatClampNeg = 16 := by decide
theorem tc_17 : (17 : Int32).toNatClampNeg = 17 := by decide
theorem tc_18 : (18 : Int32).toNatClampNeg = 18 := by decide
theorem tc_19 : (19 : Int32).toNatClampNeg = 19 := by decide
theorem tc_20 : (20 : Int32).toNatClampNeg = 20 := by decide
theorem tc_21 : (21 : Int32).toNatClampNeg = 21 := by decide
theorem tc_22 : (22 : Int32).toNatClampNeg = 22 := by decide
theorem tc_23 : (23 : Int32).toNatClampNeg = 23 := by decide
theorem tc_24 : (24 : Int32).toNatClampNeg = 24 := by decide
theorem tc_25 : (25 : Int32).toNatClampNeg = 25 := by decide
theorem tc_26 : (26 : Int32).toNatClampNeg = 26 := by decide
theorem tc_27 : (27 : Int32).toNatClampNeg = 27 := by decide
theorem tc_28 : (28 : Int32).toNatClampNeg = 28 := by decide
theorem tc_29 : (29 : Int32).toNatClampNeg = 29 := by decide
theorem tc_30 : (30 : Int32).toNatClampNeg = 30 := by decide
theorem tc_31 : (31 : Int32).toNatClampNeg = 31 := by decide
theorem tc_32 : (32 : Int32).toNatClampNeg = 32 := by decide
theorem tc_33 : (33 : Int32).toNatClampNeg = 33 := by decide
theorem tc_34 : (34 : Int32).toNatClampNeg = 34 := by decide
theorem tc_35 : (35 : Int32).toNatClampNeg = 35 := by decide
theorem tc_36 : (36 : Int32).toNatClampNeg = 36 := by decide
theorem tc_37 : (37 : Int32).toNatClampNeg = 37 := by decide
theorem tc_38 : (38 : Int32).toNatClampNeg = 38 := by decide
theorem tc_39 : (39 : Int32).toNatClampNeg = 39 := by decide
theorem tc_40 : (40 : Int32).toNatClampNeg = 40 := by decide
theorem tc_41 : (41 : Int32).toNatClampNeg = 41 := by decide
theorem tc_42 : (42 : Int32).toNatClampNeg = 42 := by decide
theorem tc_43 : (43 : Int32).toNatClampNeg = 43 := by decide
theorem tc_44 : (44 : Int32).toNatClampNeg = 44 := by decide
theorem tc_45 : (45 : Int32).toNatClampNeg = 45 := by decide
theorem tc_46 : (46 : Int32).toNatClampNeg = 46 := by decide
theorem tc_47 : (47 : Int32).toNatClampNeg = 47 := by decide
theorem tc_48 : (48 : Int32).toNatClampNeg = 48 := by decide
theorem tc_49 : (49 : Int32).toNatClampNeg = 49 := by decide
theorem tc_50 : (50 : Int32).toNatClampNeg = 50 := by decide
theorem tc_51 : (51 : Int32).toNatClampNeg = 51 := by decide
theorem tc_52 : (52 : Int32).toNatClampNeg = 52 := by decide
theorem tc_53 : (53 : Int32).toNatClampNeg = 53 := by decide
theorem tc_54 : (54 : Int32).toNatClampNeg = 54 := by decide
theorem tc_55 : (55 : Int32).toNatClampNeg = 55 := by decide
theorem tc_56 : (56 : Int32).toNatClampNeg = 56 := by decide
theorem tc_57 : (57 : Int32).toNatClampNeg = 57 := by decide
theorem tc_58 : (58 : Int32).toNatClampNeg = 58 := by decide
theorem tc_59 : (59 : Int32).toNatClampNeg = 59 := by decide
theorem tc_60 : (60 : Int32).toNatClampNeg = 60 := by decide
theorem tc_61 : (61 : Int32).toNatClampNeg = 61 := by decide
theorem tc_62 : (62 : Int32).toNatClampNeg = 62 := by decide
theorem tc_63 : (63 : Int32).toNatClampNeg = 63 := by decide
theorem tc_64 : (64 : Int32).toNatClampNeg = 64 := by decide
theorem tc_65 : (65 : Int32).toNatClampNeg = 65 := by decide
theorem tc_66 : (66 : Int32).toNatClampNeg = 66 := by decide
theorem tc_67 : (67 : Int32).toNatClampNeg = 67 := by decide
theorem tc_68 : (68 : Int32).toNatClampNeg = 68 := by decide
theorem tc_69 : (69 : Int32).toNatClampNeg = 69 := by decide
theorem tc_70 : (70 : Int32).toNatClampNeg = 70 := by decide
theorem tc_71 : (71 : Int32).toNatClampNeg = 71 := by decide
theorem tc_72 : (72 : Int32).toNatClampNeg = 72 := by decide
theorem tc_73 : (73 : Int32).toNatClampNeg = 73 := by decide
theorem tc_74 : (74 : Int32).toNatClampNeg = 74 := by decide
theorem tc_75 : (75 : Int32).toNatClampNeg = 75 := by decide
theorem tc_76 : (76 : Int32).toNatClampNeg = 76 := by decide
theorem tc_77 : (77 : Int32).toNatClampNeg = 77 := by decide
theorem tc_78 : (78 : Int32).toNatClampNeg = 78 := by decide
theorem tc_79 : (79 : Int32).toNatClampNeg = 79 := by decide
theorem tc_80 : (80 : Int32).toNatClampNeg = 80 := by decide
theorem tc_81 : (81 : Int32).toNatClampNeg = 81 := by decide
theorem tc_82 : (82 : Int32).toNatClampNeg = 82 := by decide
theorem tc_83 : (83 : Int32).toNatClampNeg = 83 := by decide
theorem tc_84 : (84 : Int32).toNatClampNeg = 84 := by decide
theorem tc_85 : (85 : Int32).toNatClampNeg = 85 := by decide
theorem tc_86 : (86 : Int32).toNatClampNeg = 86 := by decide
theorem tc_87 : (87 : Int32).toNatClampNeg = 87 := by decide
theorem tc_88 : (88 : Int32).toNatClampNeg = 88 := by decide
theorem tc_89 : (89 : Int32).toNatClampNeg = 89 := by decide
theorem tc_90 : (90 : Int32).toNatClampNeg = 90 := by decide
theorem tc_91 : (91 : Int32).toNatClampNeg = 91 := by decide
theorem tc_92 : (92 : Int32).toNatClampNeg = 92 := by decide
theorem tc_93 : (93 : Int32).toNatClampNeg = 93 := by decide
theorem tc_94 : (94 : Int32).toNatClampNeg = 94 := by decide
theorem tc_95 : (95 : Int32).toNatClampNeg = 95 := by decide
theorem tc_96 : (96 : Int32).toNatClampNeg = 96 := by decide
theorem tc_160 : (160 : Int32).toNatClampNeg = 160 := by decide
theorem tc_200 : (200 : Int32).toNatClampNeg = 200 := by decide
theorem tc_960 : (960 : Int32).toNatClampNeg = 960 := by decide
theorem tc_1200 : (1200 : Int32).toNatClampNeg = 1200 := by decide
theorem vc_0_4 : vp_in (0 : Int32) 4 := by unfold vp_in; decide
theorem vc_0_18 : vp_in (0 : Int32) 18 := by unfold vp_in; decide
theorem vc_0_33 : vp_in (0 : Int32) 33 := by unfold vp_in; decide
theorem vc_0_96 : vp_in (0 : Int32) 96 := by unfold vp_in; decide
theorem vc_0_960 : vp_in (0 : Int32) 960 := by unfold vp_in; decide
theorem vc_1_4 : vp_in (1 : Int32) 4 := by unfold vp_in; decide
theorem vc_1_18 : vp_in (1 : Int32) 18 := by unfold vp_in; decide
theorem vc_1_33 : vp_in (1 : Int32) 33 := by unfold vp_in; decide
theorem vc_1_96 : vp_in (1 : Int32) 96 := by unfold vp_in; decide
theorem vc_1_960 : vp_in (1 : Int32) 960 := by unfold vp_in; decide
theorem vc_2_4 : vp_in (2 : Int32) 4 := by unfold vp_in; decide
theorem vc_2_18 : vp_in (2 : Int32) 18 := by unfold vp_in; decide
theorem vc_2_33 : vp_in (2 : Int32) 33 := by unfold vp_in; decide
theorem vc_2_96 : vp_in (2 : Int32) 96 := by unfold vp_in; decide
theorem vc_2_960 : vp_in (2 : Int32) 960 := by unfold vp_in; decide
theorem vc_3_4 : vp_in (3 : Int32) 4 := by unfold vp_in; decide
theorem vc_3_33 : vp_in (3 : Int32) 33 := by unfold vp_in; decide
theorem vc_3_96 : vp_in (3 : Int32) 96 := by unfold vp_in; decide
theorem vc_4_33 : vp_in (4 : Int32) 33 := by unfold vp_in; decide
theorem vc_4_96 : vp_in (4 : Int32) 96 := by unfold vp_in; decide
theorem vc_5_33 : vp_in (5 : Int32) 33 := by unfold vp_in; decide
theorem vc_5_96 : vp_in (5 : Int32) 96 := by unfold vp_in; decide
theorem vc_6_33 : vp_in (6 : Int32) 33 := by unfold vp_in; decide
theorem vc_6_96 : vp_in (6 : Int32) 96 := by unfold vp_in; decide
theorem vc_7_33 : vp_in (7 : Int32) 33 := by unfold vp_in; decide
theorem vc_7_96 : vp_in (7 : Int32) 96 := by unfold vp_in; decide
theorem vc_8_33 : vp_in (8 : Int32) 33 := by unfold vp_in; decide
theorem vc_8_96 : vp_in (8 : Int32) 96 := by unfold vp_in; decide
theorem vc_9_33 : vp_in (9 : Int32) 33 := by unfold vp_in; decide
theorem vc_9_96 : vp_in (9 : Int32) 96 := by unfold vp_in; decide
theorem vc_10_33 : vp_in (10 : Int32) 33 := by unfold vp_in; decide
theorem vc_10_96 : vp_in (10 : Int32) 96 := by unfold vp_in; decide
theorem vc_11_33 : vp_in (11 : Int32) 33 := by unfold vp_in; decide
theorem vc_11_96 : vp_in (11 : Int32) 96 := by unfold vp_in; decide
theorem vc_12_33 : vp_in (12 : Int32) 33 := by unfold vp_in; decide
theorem vc_12_96 : vp_in (12 : Int32) 96 := by unfold vp_in; decide
theorem vc_13_33 : vp_in (13 : Int32) 33 := by unfold vp_in; decide
theorem vc_13_96 : vp_in (13 : Int32) 96 := by unfold vp_in; decide
theorem vc_14_33 : vp_in (14 : Int32) 33 := by unfold vp_in; decide
theorem vc_14_96 : vp_in (14 : Int32) 96 := by unfold vp_in; decide
theorem vc_15_33 : vp_in (15 : Int32) 33 := by unfold vp_in; decide
theorem vc_15_96 : vp_in (15 : Int32) 96 := by unfold vp_in; decide
theorem vc_16_33 : vp_in (16 : Int32) 33 := by unfold vp_in; decide
theorem vc_16_96 : vp_in (16 : Int32) 96 := by unfold vp_in; decide
theorem vc_17_33 : vp_in (17 : Int32) 33 := by unfold vp_in; decide
theorem vc_17_96 : vp_in (17 : Int32) 96 := by unfold vp_in; decide
theorem vc_18_33 : vp_in (18 : Int32) 33 := by unfold vp_in; decide
theorem vc_18_96 : vp_in (18 : Int32) 96 := by unfold vp_in; decide
theorem vc_19_33 : vp_in (19 : Int32) 33 := by unfold vp_in; decide
theorem vc_19_96 : vp_in (19 : Int32) 96 := by unfold vp_in; decide
theorem vc_20_33 : vp_in (20 : Int32) 33 := by unfold vp_in; decide
theorem vc_20_96 : vp_in (20 : Int32) 96 := by unfold vp_in; decide
theorem vc_21_33 : vp_in (21 : Int32) 33 := by unfold vp_in; decide
theorem vc_21_96 : vp_in (21 : Int32) 96 := by unfold vp_in; decide
theorem vc_22_33 : vp_in (22 : Int32) 33 := by unfold vp_in; decide
theorem vc_22_96 : vp_in (22 : Int32) 96 := by unfold vp_in; decide
theorem vc_23_33 : vp_in (23 : Int32) 33 := by unfold vp_in; decide
theorem vc_23_96 : vp_in (23 : Int32) 96 := by unfold vp_in; decide
theorem vc_24_33 : vp_in (24 : Int32) 33 := by unfold vp_in; decide
theorem vc_24_96 : vp_in (24 : Int32) 96 := by unfold vp_in; decide
theorem vc_25_33 : vp_in (25 : Int32) 33 := by unfold vp_in; decide
theorem vc_25_96 : vp_in (25 : Int32) 96 := by unfold vp_in; decide
theorem vc_26_33 : vp_in (26 : Int32) 33 := by unfold vp_in; decide
theorem vc_26_96 : vp_in (26 : Int32) 96 := by unfold vp_in; decide
theorem vc_27_33 : vp_in (27 : Int32) 33 := by unfold vp_in; decide
theorem vc_27_96 : vp_in (27 : Int32) 96 := by unfold vp_in; decide
theorem vc_28_33 : vp_in (28 : Int32) 33 := by unfold vp_in; decide
theorem vc_28_96 : vp_in (28 : Int32) 96 := by unfold vp_in; decide
theorem vc_29_33 : vp_in (29 : Int32) 33 := by unfold vp_in; decide
theorem vc_29_96 : vp_in (29 : Int32) 96 := by unfold vp_in; decide
theorem vc_30_33 : vp_in (30 : Int32) 33 := by unfold vp_in; decide
theorem vc_30_96 : vp_in (30 : Int32) 96 := by unfold vp_in; decide
theorem vc_31_33 : vp_in (31 : Int32) 33 := by unfold vp_in; decide
theorem vc_31_96 : vp_in (31 : Int32) 96 := by unfold vp_in; decide
theorem vc_32_33 : vp_in (32 : Int32) 33 := by unfold vp_in; decide
theorem vc_32_96 : vp_in (32 : Int32) 96 := by unfold vp_in; decide
theorem vc_33_96 : vp_in (33 : Int32) 96 := by unfold vp_in; decide
theorem vc_34_96 : vp_in (34 : Int32) 96 := by unfold vp_in; decide
theorem vc_35_96 : vp_in (35 : Int32) 96 := by unfold vp_in; decide
theorem vc_36_96 : vp_in (36 : Int32) 96 := by unfold vp_in; decide
theorem vc_37_96 : vp_in (37 : Int32) 96 := by unfold vp_in; decide
theorem vc_38_96 : vp_in (38 : Int32) 96 := by unfold vp_in; decide
theorem vc_39_96 : vp_in (39 : Int32) 96 := by unfold vp_in; decide
theorem vc_40_96 : vp_in (40 : Int32) 96 := by unfold vp_in; decide
theorem vc_41_96 : vp_in (41 : Int32) 96 := by unfold vp_in; decide
theorem vc_42_96 : vp_in (42 : Int32) 96 := by unfold vp_in; decide
theorem vc_43_96 : vp_in (43 : Int32) 96 := by unfold vp_in; decide
theorem vc_44_96 : vp_in (44 : Int32) 96 := by unfold vp_in; decide
theorem vc_45_96 : vp_in (45 : Int32) 96 := by unfold vp_in; decide
theorem vc_46_96 : vp_in (46 : Int32) 96 := by unfold vp_in; decide
theorem vc_47_96 : vp_in (47 : Int32) 96 := by unfold vp_in; decide
theorem vc_48_96 : vp_in (48 : Int32) 96 := by unfold vp_in; decide
theorem vc_49_96 : vp_in (49 : Int32) 96 := by unfold vp_in; decide
theorem vc_50_96 : vp_in (50 : Int32) 96 := by unfold vp_in; decide
theorem vc_51_96 : vp_in (51 : Int32) 96 := by unfold vp_in; decide
theorem vc_52_96 : vp_in (52 : Int32) 96 := by unfold vp_in; decide
theorem vc_53_96 : vp_in (53 : Int32) 96 := by unfold vp_in; decide
theorem vc_54_96 : vp_in (54 : Int32) 96 := by unfold vp_in; decide
theorem vc_55_96 : vp_in (55 : Int32) 96 := by unfold vp_in; decide
theorem vc_56_96 : vp_in (56 : Int32) 96 := by unfold vp_in; decide
theorem vc_57_96 : vp_in (57 : Int32) 96 := by unfold vp_in; decide
theorem vc_58_96 : vp_in (58 : Int32) 96 := by unfold vp_in; decide
theorem vc_59_96 : vp_in (59 : Int32) 96 := by unfold vp_in; decide
theorem vc_60_96 : vp_in (60 : Int32) 96 := by unfold vp_in; decide
theorem vc_61_96 : vp_in (61 : Int32) 96 := by unfold vp_in; decide
theorem vc_62_96 : vp_in (62 : Int32) 96 := by unfold vp_in; decide
theorem vc_63_96 : vp_in (63 : Int32) 96 := by unfold vp_in; decide
theorem vc_64_96 : vp_in (64 : Int32) 96 := by unfold vp_in; decide
theorem vc_65_96 : vp_in (65 : Int32) 96 := by unfold vp_in; decide
theorem vc_66_96 : vp_in (66 : Int32) 96 := by unfold vp_in; decide
theorem vc_67_96 : vp_in (67 : Int32) 96 := by unfold vp_in; decide
theorem vc_68_96 : vp_in (68 : Int32) 96 := by unfold vp_in; decide
theorem vc_69_96 : vp_in (69 : Int32) 96 := by unfold vp_in; decide
theorem vc_70_96 : vp_in (70 : Int32) 96 := by unfold vp_in; decide
theorem vc_71_96 : vp_in (71 : Int32) 96 := by unfold vp_in; decide
theorem vc_72_96 : vp_in (72 : Int32) 96 := by unfold vp_in; decide
theorem vc_73_96 : vp_in (73 : Int32) 96 := by unfold vp_in; decide
theorem vc_74_96 : vp_in (74 : Int32) 96 := by unfold vp_in; decide
theorem vc_75_96 : vp_in (75 : Int32) 96 := by unfold vp_in; decide
theorem vc_76_96 : vp_in (76 : Int32) 96 := by unfold vp_in; decide
theorem vc_77_96 : vp_in (77 : Int32) 96 := by unfold vp_in; decide
theorem vc_78_96 : vp_in (78 : Int32) 96 := by unfold vp_in; decide
theorem vc_79_96 : vp_in (79 : Int32) 96 := by unfold vp_in; decide
theorem vc_80_96 : vp_in (80 : Int32) 96 := by unfold vp_in; decide
theorem vc_81_96 : vp_in (81 : Int32) 96 := by unfold vp_in; decide
theorem vc_82_96 : vp_in (82 : Int32) 96 := by unfold vp_in; decide
theorem vc_83_96 : vp_in (83 : Int32) 96 := by unfold vp_in; decide
theorem vc_84_96 : vp_in (84 : Int32) 96 := by unfold vp_in; decide
theorem vc_85_96 : vp_in (85 : Int32) 96 := by unfold vp_in; decide
theorem vc_86_96 : vp_in (86 : Int32) 96 := by unfold vp_in; decide
theorem vc_87_96 : vp_in (87 : Int32) 96 := by unfold vp_in; decide
theorem vc_88_96 : vp_in (88 : Int32) 96 := by unfold vp_in; decide
theorem vc_89_96 : vp_in (89 : Int32) 96 := by unfold vp_in; decide
theorem vc_90_96 : vp_in (90 : Int32) 96 := by unfold vp_in; decide
theorem vc_91_96 : vp_in (91 : Int32) 96 := by unfold vp_in; decide
theorem vc_92_96 : vp_in (92 : Int32) 96 := by unfold vp_in; decide
theorem vc_93_96 : vp_in (93 : Int32) 96 := by unfold vp_in; decide
theorem vc_94_96 : vp_in (94 : Int32) 96 := by unfold vp_in; decide
theorem vc_95_96 : vp_in (95 : Int32) 96 := by unfold vp_in; decide
theorem om_X1_3 : Cond.methodLink RX1 3 objectInit ∈ qaWL := qa_at1 87 (by decide +kernel) rfl
theorem op_X1_9 : qaPF RX1 9 1 1 (.array .int) true := ⟨RX1, RX1, TX1, 2, tyX1, ⟨rfl, kinX1, by decide, qa_at1 91 (by decide +kernel) rfl, rfl⟩, tyX1_ok, nmX1, rfl, by decide +kernel, rfl⟩
set_option maxRecDepth 100000 in
set_option maxHeartbeats 4000000 in
theorem ci_X1 (l : Launch) (D : va_G) (cI : ClassId) (h0 : Nat) : qaMc l D cI yX1_init cX1_init 1 1 1 56 [.ref h0] [(h0, .inr (1, [.int 0, .null]))] (fun u : Nat => [(h0, .inr (1, [.int 0, .ref u])), (u, .inl (cI, 56, .inl (fun _ => 0)))]) := by
  refine qw_ent (by decide +kernel) rfl (Nat.le_of_ble_eq_true rfl) fun X hC hI hQ => ?_
  refine qw_aload_n hC 0 rfl rfl dX1_init_0 ?_
  refine qw_oinit hC om_X1_3 om_inst om_code (by decide) (Nat.le_of_ble_eq_true rfl) dX1_init_1 ?_
  refine qw_aload_n hC 0 rfl rfl dX1_init_4 ?_
  refine qw_bipush hC dX1_init_5 kq_bipush_56 ?_
  refine qw_newa hC om_arr (by decide) tc_56 (by decide) (by decide) (by decide) dX1_init_7 (fun q1 => ?_)
  show QW X D 1 [(h0, .inr (1, [.int 0, .null])), (q1, .inl (cI, 56, .inl (fun _ => 0)))] 1 56 9 _ _
  refine qw_putF hC hI (ws' := [(h0, .inr (1, [.int 0, .ref q1])), (q1, .inl (cI, 56, .inl (fun _ => 0)))]) 0 op_X1_9 rfl rfl rfl (Nat.le_of_ble_eq_true rfl) rfl dX1_init_9 ?_
  exact qw_vret hC hQ q1 rfl rfl rfl dX1_init_12
theorem om_X2_3 : Cond.methodLink RX2 3 objectInit ∈ qaWL := qa_at1 102 (by decide +kernel) rfl
theorem op_X2_9 : qaPF RX2 9 2 1 (.array .int) true := ⟨RX2, RX2, TX2, 2, tyX2, ⟨rfl, kinX2, by decide, qa_at1 106 (by decide +kernel) rfl, rfl⟩, tyX2_ok, nmX2, rfl, by decide +kernel, rfl⟩
set_option maxRecDepth 100000 in
set_option maxHeartbeats 4000000 in
theorem ci_X2 (l : Launch) (D : va_G) (cI : ClassId) (h0 : Nat) : qaMc l D cI yX2_init cX2_init 1 1 1 8 [.ref h0] [(h0, .inr (2, [.int 0, .null]))] (fun u : Nat => [(h0, .inr (2, [.int 0, .ref u])), (u, .inl (cI, 8, .inl (fun _ => 0)))]) := by
  refine qw_ent (by decide +kernel) rfl (Nat.le_of_ble_eq_true rfl) fun X hC hI hQ => ?_
  refine qw_aload_n hC 0 rfl rfl dX2_init_0 ?_
  refine qw_oinit hC om_X2_3 om_inst om_code (by decide) (Nat.le_of_ble_eq_true rfl) dX2_init_1 ?_
  refine qw_aload_n hC 0 rfl rfl dX2_init_4 ?_
  refine qw_bipush hC dX2_init_5 kq_bipush_8 ?_
  refine qw_newa hC om_arr (by decide) tc_8 (by decide) (by decide) (by decide) dX2_init_7 (fun q1 => ?_)
  show QW X D 1 [(h0, .inr (2, [.int 0, .null])), (q1, .inl (cI, 8, .inl (fun _ => 0)))] 1 8 9 _ _
  refine qw_putF hC hI (ws' := [(h0, .inr (2, [.int 0, .ref q1])), (q1, .inl (cI, 8, .inl (fun _ => 0)))]) 0 op_X2_9 rfl rfl rfl (Nat.le_of_ble_eq_true rfl) rfl dX2_init_9 ?_
  exact qw_vret hC hQ q1 rfl rfl rfl dX2_init_12
theorem om_X5_3 : Cond.methodLink RX5 3 objectInit ∈ qaWL := qa_at1 28 (by decide +kernel) rfl
theorem op_X5_9 : qaPF RX5 9 5 0 .int false := ⟨RX5, RX5, TX5, 6, tyX5, ⟨rfl, kinX5, by decide, qa_at1 29 (by decide +kernel) rfl, rfl⟩, tyX5_ok, nmX5, rfl, by decide +kernel, rfl⟩
theorem op_X5_15 : qaPF RX5 15 5 1 (.array .int) true := ⟨RX5, RX5, TX5, 6, tyX5, ⟨rfl, kinX5, by decide, qa_at1 31 (by decide +kernel) rfl, rfl⟩, tyX5_ok, nmX5, rfl, by decide +kernel, rfl⟩
theorem op_X5_19 : qaPF RX5 19 5 2 (.array .int) true := ⟨RX5, RX5, TX5, 6, tyX5, ⟨rfl, kinX5, by decide, qa_at1 32 (by decide +kernel) rfl, rfl⟩, tyX5_ok, nmX5, rfl, by decide +kernel, rfl⟩
theorem op_X5_22 : qaPF RX5 22 5 3 (.array .int) true := ⟨RX5, RX5, TX5, 6, tyX5, ⟨rfl, kinX5, by decide, qa_at1 33 (by decide +kernel) rfl, rfl⟩, tyX5_ok, nmX5, rfl, by decide +kernel, rfl⟩
theorem op_X5_25 : qaPF RX5 25 5 4 (.array .int) true := ⟨RX5, RX5, TX5, 6, tyX5, ⟨rfl, kinX5, by decide, qa_at1 34 (by decide +kernel) rfl, rfl⟩, tyX5_ok, nmX5, rfl, by decide +kernel, rfl⟩
def ca_X5_50 : Nat → Int32 := upd (fun _ => 0) 0 (10)
def ca_X5_57 : Nat → Int32 := upd ca_X5_50 1 (1)
def ca_X5_65 : Nat → Int32 := upd ca_X5_57 2 (50)
def ca_X5_72 : Nat → Int32 := upd (fun _ => 0) 0 (1)
def ca_X5_79 : Nat → Int32 := upd ca_X5_72 1 (2)
def ca_X5_86 : Nat → Int32 := upd ca_X5_79 2 (3)
set_option maxRecDepth 100000 in
set_option maxHeartbeats 4000000 in
theorem ci_X5 (l : Launch) (D : va_G) (cI : ClassId) (h0 : Nat) : qaMc l D cI yX5_init cX5_init 1 1 4 1144 [.ref h0] [(h0, .inr (5, [.int 0, .null, .null, .null, .null, .int 0]))] (fun u : Nat × Nat × Nat × Nat => [(h0, .inr (5, [.int 1, .ref u.1, .ref u.2.1, .ref u.2.2.1, .ref u.2.2.2, .int 0])), (u.1, .inl (cI, 960, .inl ca_X5_65)), (u.2.1, .inl (cI, 18, .inl ca_X5_86)), (u.2.2.1, .inl (cI, 6, .inl (fun _ => 0))), (u.2.2.2, .inl (cI, 160, .inl (fun _ => 0)))]) := by
  refine qw_ent (by decide +kernel) rfl (Nat.le_of_ble_eq_true rfl) fun X hC hI hQ => ?_
  refine qw_aload_n hC 0 rfl rfl dX5_init_0 ?_
  refine qw_oinit hC om_X5_3 om_inst om_code (by decide) (Nat.le_of_ble_eq_true rfl) dX5_init_1 ?_
  refine qw_aload_n hC 0 rfl rfl dX5_init_4 ?_
  refine qw_iconst hC dX5_init_5 kq_iconst_1 ?_
  refine qw_put hC (ws' := [(h0, .inr (5, [.int 1, .null, .null, .null, .null, .int 0]))]) 0 op_X5_9 rfl rfl rfl (Nat.le_of_ble_eq_true rfl) rfl dX5_init_6 ?_
  refine qw_aload_n hC 0 rfl rfl dX5_init_9 ?_
  refine qw_sipush hC dX5_init_10 kq_sipush_960 ?_
  refine qw_newa hC om_arr (by decide) tc_960 (by decide) (by decide) (by decide) dX5_init_13 (fun q1 => ?_)
  show QW X D 1 [(h0, .inr (5, [.int 1, .null, .null, .null, .null, .int 0])), (q1, .inl (cI, 960, .inl (fun _ => 0)))] 1 960 15 _ _
  refine qw_putF hC hI (ws' := [(h0, .inr (5, [.int 1, .ref q1, .null, .null, .null, .int 0])), (q1, .inl (cI, 960, .inl (fun _ => 0)))]) 0 op_X5_15 rfl rfl rfl (Nat.le_of_ble_eq_true rfl) rfl dX5_init_15 ?_
  refine qw_aload_n hC 0 rfl rfl dX5_init_18 ?_
  refine qw_bipush hC dX5_init_19 kq_bipush_18 ?_
  refine qw_newa hC om_arr (by decide) tc_18 (by decide) (by decide) (by decide) dX5_init_21 (fun q2 => ?_)
  show QW X D 1 [(h0, .inr (5, [.int 1, .ref q1, .null, .null, .null, .int 0])), (q1, .inl (cI, 960, .inl (fun _ => 0))), (q2, .inl (cI, 18, .inl (fun _ => 0)))] 2 978 23 _ _
  refine qw_putF hC hI (ws' := [(h0, .inr (5, [.int 1, .ref q1, .ref q2, .null, .null, .int 0])), (q1, .inl (cI, 960, .inl (fun _ => 0))), (q2, .inl (cI, 18, .inl (fun _ => 0)))]) 0 op_X5_19 rfl rfl rfl (Nat.le_of_ble_eq_true rfl) rfl dX5_init_23 ?_
  refine qw_aload_n hC 0 rfl rfl dX5_init_26 ?_
  refine qw_bipush hC dX5_init_27 kq_bipush_6 ?_
  refine qw_newa hC om_arr (by decide) tc_6 (by decide) (by decide) (by decide) dX5_init_29 (fun q3 => ?_)
  show QW X D 1 [(h0, .inr (5, [.int 1, .ref q1, .ref q2, .null, .null, .int 0])), (q1, .inl (cI, 960, .inl (fun _ => 0))), (q2, .inl (cI, 18, .inl (fun _ => 0))), (q3, .inl (cI, 6, .inl (fun _ => 0)))] 3 984 31 _ _
  refine qw_putF hC hI (ws' := [(h0, .inr (5, [.int 1, .ref q1, .ref q2, .ref q3, .null, .int 0])), (q1, .inl (cI, 960, .inl (fun _ => 0))), (q2, .inl (cI, 18, .inl (fun _ => 0))), (q3, .inl (cI, 6, .inl (fun _ => 0)))]) 0 op_X5_22 rfl rfl rfl (Nat.le_of_ble_eq_true rfl) rfl dX5_init_31 ?_
  refine qw_aload_n hC 0 rfl rfl dX5_init_34 ?_
  refine qw_sipush hC dX5_init_35 kq_sipush_160 ?_
  refine qw_newa hC om_arr (by decide) tc_160 (by decide) (by decide) (by decide) dX5_init_38 (fun q4 => ?_)
  show QW X D 1 [(h0, .inr (5, [.int 1, .ref q1, .ref q2, .ref q3, .null, .int 0])), (q1, .inl (cI, 960, .inl (fun _ => 0))), (q2, .inl (cI, 18, .inl (fun _ => 0))), (q3, .inl (cI, 6, .inl (fun _ => 0))), (q4, .inl (cI, 160, .inl (fun _ => 0)))] 4 1144 40 _ _
  refine qw_putF hC hI (ws' := [(h0, .inr (5, [.int 1, .ref q1, .ref q2, .ref q3, .ref q4, .int 0])), (q1, .inl (cI, 960, .inl (fun _ => 0))), (q2, .inl (cI, 18, .inl (fun _ => 0))), (q3, .inl (cI, 6, .inl (fun _ => 0))), (q4, .inl (cI, 160, .inl (fun _ => 0)))]) 0 op_X5_25 rfl rfl rfl (Nat.le_of_ble_eq_true rfl) rfl dX5_init_40 ?_
  refine qw_aload_n hC 0 rfl rfl dX5_init_43 ?_
  refine qw_getr hC 0 kf_X5_15 rfl rfl dX5_init_44 ?_
  refine qw_iconst hC dX5_init_47 kq_iconst_0 ?_
  refine qw_bipush hC dX5_init_48 kq_bipush_10 ?_
  refine qw_iast hC (ws' := [(h0, .inr (5, [.int 1, .ref q1, .ref q2, .ref q3, .ref q4, .int 0])), (q1, .inl (cI, 960, .inl ca_X5_50)), (q2, .inl (cI, 18, .inl (fun _ => 0))), (q3, .inl (cI, 6, .inl (fun _ => 0))), (q4, .inl (cI, 160, .inl (fun _ => 0)))]) 1 rfl tc_0 vc_0_960 rfl dX5_init_50 ?_
  refine qw_aload_n hC 0 rfl rfl dX5_init_51 ?_
  refine qw_getr hC 0 kf_X5_15 rfl rfl dX5_init_52 ?_
  refine qw_iconst hC dX5_init_55 kq_iconst_1 ?_
  refine qw_iconst hC dX5_init_56 kq_iconst_1 ?_
  refine qw_iast hC (ws' := [(h0, .inr (5, [.int 1, .ref q1, .ref q2, .ref q3, .ref q4, .int 0])), (q1, .inl (cI, 960, .inl ca_X5_57)), (q2, .inl (cI, 18, .inl (fun _ => 0))), (q3, .inl (cI, 6, .inl (fun _ => 0))), (q4, .inl (cI, 160, .inl (fun _ => 0)))]) 1 rfl tc_1 vc_1_960 rfl dX5_init_57 ?_
  refine qw_aload_n hC 0 rfl rfl dX5_init_58 ?_
  refine qw_getr hC 0 kf_X5_15 rfl rfl dX5_init_59 ?_
  refine qw_iconst hC dX5_init_62 kq_iconst_2 ?_
  refine qw_bipush hC dX5_init_63 kq_bipush_50 ?_
  refine qw_iast hC (ws' := [(h0, .inr (5, [.int 1, .ref q1, .ref q2, .ref q3, .ref q4, .int 0])), (q1, .inl (cI, 960, .inl ca_X5_65)), (q2, .inl (cI, 18, .inl (fun _ => 0))), (q3, .inl (cI, 6, .inl (fun _ => 0))), (q4, .inl (cI, 160, .inl (fun _ => 0)))]) 1 rfl tc_2 vc_2_960 rfl dX5_init_65 ?_
  refine qw_aload_n hC 0 rfl rfl dX5_init_66 ?_
  refine qw_getr hC 0 kf_X5_19 rfl rfl dX5_init_67 ?_
  refine qw_iconst hC dX5_init_70 kq_iconst_0 ?_
  refine qw_iconst hC dX5_init_71 kq_iconst_1 ?_
  refine qw_iast hC (ws' := [(h0, .inr (5, [.int 1, .ref q1, .ref q2, .ref q3, .ref q4, .int 0])), (q1, .inl (cI, 960, .inl ca_X5_65)), (q2, .inl (cI, 18, .inl ca_X5_72)), (q3, .inl (cI, 6, .inl (fun _ => 0))), (q4, .inl (cI, 160, .inl (fun _ => 0)))]) 2 rfl tc_0 vc_0_18 rfl dX5_init_72 ?_
  refine qw_aload_n hC 0 rfl rfl dX5_init_73 ?_
  refine qw_getr hC 0 kf_X5_19 rfl rfl dX5_init_74 ?_
  refine qw_iconst hC dX5_init_77 kq_iconst_1 ?_
  refine qw_iconst hC dX5_init_78 kq_iconst_2 ?_
  refine qw_iast hC (ws' := [(h0, .inr (5, [.int 1, .ref q1, .ref q2, .ref q3, .ref q4, .int 0])), (q1, .inl (cI, 960, .inl ca_X5_65)), (q2, .inl (cI, 18, .inl ca_X5_79)), (q3, .inl (cI, 6, .inl (fun _ => 0))), (q4, .inl (cI, 160, .inl (fun _ => 0)))]) 2 rfl tc_1 vc_1_18 rfl dX5_init_79 ?_
  refine qw_aload_n hC 0 rfl rfl dX5_init_80 ?_
  refine qw_getr hC 0 kf_X5_19 rfl rfl dX5_init_81 ?_
  refine qw_iconst hC dX5_init_84 kq_iconst_2 ?_
  refine qw_iconst hC dX5_init_85 kq_iconst_3 ?_
  refine qw_iast hC (ws' := [(h0, .inr (5, [.int 1, .ref q1, .ref q2, .ref q3, .ref q4, .int 0])), (q1, .inl (cI, 960, .inl ca_X5_65)), (q2, .inl (cI, 18, .inl ca_X5_86)), (q3, .inl (cI, 6, .inl (fun _ => 0))), (q4, .inl (cI, 160, .inl (fun _ => 0)))]) 2 rfl tc_2 vc_2_18 rfl dX5_init_86 ?_
  exact qw_vret hC hQ (q1, q2, q3, q4) rfl rfl rfl dX5_init_87
theorem om_X4_3 : Cond.methodLink RX4 3 objectInit ∈ qaWL := qa_at1 55 (by decide +kernel) rfl
theorem op_X4_9 : qaPF RX4 9 4 1 (.array .int) true := ⟨RX4, RX4, TX4, 6, tyX4, ⟨rfl, kinX4, by decide, qa_at1 58 (by decide +kernel) rfl, rfl⟩, tyX4_ok, nmX4, rfl, by decide +kernel, rfl⟩
set_option maxRecDepth 100000 in
set_option maxHeartbeats 4000000 in
theorem ci_X4 (l : Launch) (D : va_G) (cI : ClassId) (h0 : Nat) : qaMc l D cI yX4_init cX4_init 1 1 1 160 [.ref h0] [(h0, .inr (4, [.int 0, .null, .int 0, .int 0, .int 0, .int 0]))] (fun u : Nat => [(h0, .inr (4, [.int 0, .ref u, .int 0, .int 0, .int 0, .int 0])), (u, .inl (cI, 160, .inl (fun _ => 0)))]) := by
  refine qw_ent (by decide +kernel) rfl (Nat.le_of_ble_eq_true rfl) fun X hC hI hQ => ?_
  refine qw_aload_n hC 0 rfl rfl dX4_init_0 ?_
  refine qw_oinit hC om_X4_3 om_inst om_code (by decide) (Nat.le_of_ble_eq_true rfl) dX4_init_1 ?_
  refine qw_aload_n hC 0 rfl rfl dX4_init_4 ?_
  refine qw_sipush hC dX4_init_5 kq_sipush_160 ?_
  refine qw_newa hC om_arr (by decide) tc_160 (by decide) (by decide) (by decide) dX4_init_8 (fun q1 => ?_)
  show QW X D 1 [(h0, .inr (4, [.int 0, .null, .int 0, .int 0, .int 0, .int 0])), (q1, .inl (cI, 160, .inl (fun _ => 0)))] 1 160 10 _ _
  refine qw_putF hC hI (ws' := [(h0, .inr (4, [.int 0, .ref q1, .int 0, .int 0, .int 0, .int 0])), (q1, .inl (cI, 160, .inl (fun _ => 0)))]) 0 op_X4_9 rfl rfl rfl (Nat.le_of_ble_eq_true rfl) rfl dX4_init_10 ?_
  exact qw_vret hC hQ q1 rfl rfl rfl dX4_init_13
theorem om_X3_3 : Cond.methodLink RX3 3 objectInit ∈ qaWL := qa_at1 156 (by decide +kernel) rfl
theorem op_X3_9 : qaPF RX3 9 3 0 (.array .int) true := ⟨RX3, RX3, TX3, 3, tyX3, ⟨rfl, kinX3, by decide, qa_at1 157 (by decide +kernel) rfl, rfl⟩, tyX3_ok, nmX3, rfl, by decide +kernel, rfl⟩
theorem op_X3_15 : qaPF RX3 15 3 1 (.array .int) true := ⟨RX3, RX3, TX3, 3, tyX3, ⟨rfl, kinX3, by decide, qa_at1 159 (by decide +kernel) rfl, rfl⟩, tyX3_ok, nmX3, rfl, by decide +kernel, rfl⟩
theorem op_X3_18 : qaPF RX3 18 3 2 (.array .int) true := ⟨RX3, RX3, TX3, 3, tyX3, ⟨rfl, kinX3, by decide, qa_at1 161 (by decide +kernel) rfl, rfl⟩, tyX3_ok, nmX3, rfl, by decide +kernel, rfl⟩
def ca_X3_11 : Nat → Int32 := upd (fun _ => 0) 0 (-1)
def ca_X3_15 : Nat → Int32 := upd ca_X3_11 1 (-1)
def ca_X3_19 : Nat → Int32 := upd ca_X3_15 2 (-1)
def ca_X3_23 : Nat → Int32 := upd ca_X3_19 3 (-1)
set_option maxRecDepth 100000 in
set_option maxHeartbeats 4000000 in
theorem ci_X3 (l : Launch) (D : va_G) (cI : ClassId) (h0 : Nat) : qaMc l D cI yX3_init cX3_init 1 1 3 168 [.ref h0] [(h0, .inr (3, [.null, .null, .null]))] (fun u : Nat × Nat × Nat => [(h0, .inr (3, [.ref u.1, .ref u.2.1, .ref u.2.2])), (u.1, .inl (cI, 4, .inl ca_X3_23)), (u.2.1, .inl (cI, 4, .inl (fun _ => 0))), (u.2.2, .inl (cI, 160, .inl (fun _ => 0)))]) := by
  refine qw_ent (by decide +kernel) rfl (Nat.le_of_ble_eq_true rfl) fun X hC hI hQ => ?_
  refine qw_aload_n hC 0 rfl rfl dX3_init_0 ?_
  refine qw_oinit hC om_X3_3 om_inst om_code (by decide) (Nat.le_of_ble_eq_true rfl) dX3_init_1 ?_
  refine qw_aload_n hC 0 rfl rfl dX3_init_4 ?_
  refine qw_iconst hC dX3_init_5 kq_iconst_4 ?_
  refine qw_newa hC om_arr (by decide) tc_4 (by decide) (by decide) (by decide) dX3_init_6 (fun q1 => ?_)
  show QW X D 1 [(h0, .inr (3, [.null, .null, .null])), (q1, .inl (cI, 4, .inl (fun _ => 0)))] 1 4 8 _ _
  refine qw_dup hC rfl dX3_init_8 ?_
  refine qw_iconst hC dX3_init_9 kq_iconst_0 ?_
  refine qw_iconst hC dX3_init_10 kq_iconst_m1 ?_
  refine qw_iast hC (ws' := [(h0, .inr (3, [.null, .null, .null])), (q1, .inl (cI, 4, .inl ca_X3_11))]) 1 rfl tc_0 vc_0_4 rfl dX3_init_11 ?_
  refine qw_dup hC rfl dX3_init_12 ?_
  refine qw_iconst hC dX3_init_13 kq_iconst_1 ?_
  refine qw_iconst hC dX3_init_14 kq_iconst_m1 ?_
  refine qw_iast hC (ws' := [(h0, .inr (3, [.null, .null, .null])), (q1, .inl (cI, 4, .inl ca_X3_15))]) 1 rfl tc_1 vc_1_4 rfl dX3_init_15 ?_
  refine qw_dup hC rfl dX3_init_16 ?_
  refine qw_iconst hC dX3_init_17 kq_iconst_2 ?_
  refine qw_iconst hC dX3_init_18 kq_iconst_m1 ?_
  refine qw_iast hC (ws' := [(h0, .inr (3, [.null, .null, .null])), (q1, .inl (cI, 4, .inl ca_X3_19))]) 1 rfl tc_2 vc_2_4 rfl dX3_init_19 ?_
  refine qw_dup hC rfl dX3_init_20 ?_
  refine qw_iconst hC dX3_init_21 kq_iconst_3 ?_
  refine qw_iconst hC dX3_init_22 kq_iconst_m1 ?_
  refine qw_iast hC (ws' := [(h0, .inr (3, [.null, .null, .null])), (q1, .inl (cI, 4, .inl ca_X3_23))]) 1 rfl tc_3 vc_3_4 rfl dX3_init_23 ?_
  refine qw_putF hC hI (ws' := [(h0, .inr (3, [.ref q1, .null, .null])), (q1, .inl (cI, 4, .inl ca_X3_23))]) 0 op_X3_9 rfl rfl rfl (Nat.le_of_ble_eq_true rfl) rfl dX3_init_24 ?_
  refine qw_aload_n hC 0 rfl rfl dX3_init_27 ?_
  refine qw_iconst hC dX3_init_28 kq_iconst_4 ?_
  refine qw_newa hC om_arr (by decide) tc_4 (by decide) (by decide) (by decide) dX3_init_29 (fun q2 => ?_)
  show QW X D 1 [(h0, .inr (3, [.ref q1, .null, .null])), (q1, .inl (cI, 4, .inl ca_X3_23)), (q2, .inl (cI, 4, .inl (fun _ => 0)))] 2 8 31 _ _
  refine qw_putF hC hI (ws' := [(h0, .inr (3, [.ref q1, .ref q2, .null])), (q1, .inl (cI, 4, .inl ca_X3_23)), (q2, .inl (cI, 4, .inl (fun _ => 0)))]) 0 op_X3_15 rfl rfl rfl (Nat.le_of_ble_eq_true rfl) rfl dX3_init_31 ?_
  refine qw_aload_n hC 0 rfl rfl dX3_init_34 ?_
  refine qw_sipush hC dX3_init_35 kq_sipush_160 ?_
  refine qw_newa hC om_arr (by decide) tc_160 (by decide) (by decide) (by decide) dX3_init_38 (fun q3 => ?_)
  show QW X D 1 [(h0, .inr (3, [.ref q1, .ref q2, .null])), (q1, .inl (cI, 4, .inl ca_X3_23)), (q2, .inl (cI, 4, .inl (fun _ => 0))), (q3, .inl (cI, 160, .inl (fun _ => 0)))] 3 168 40 _ _
  refine qw_putF hC hI (ws' := [(h0, .inr (3, [.ref q1, .ref q2, .ref q3])), (q1, .inl (cI, 4, .inl ca_X3_23)), (q2, .inl (cI, 4, .inl (fun _ => 0))), (q3, .inl (cI, 160, .inl (fun _ => 0)))]) 0 op_X3_18 rfl rfl rfl (Nat.le_of_ble_eq_true rfl) rfl dX3_init_40 ?_
  exact qw_vret hC hQ (q1, q2, q3) rfl rfl rfl dX3_init_43
theorem om_X0_3 : Cond.methodLink RX0 3 objectInit ∈ qaWL := qa_at1 81 (by decide +kernel) rfl
theorem on_X0_9 : qaNew RX0 9 1 2 [.int 0, .null] := ⟨RX1, TX1, tyX1, rfl, kinX1, tyX1_ok, ⟨qa_at1 82 (by decide +kernel) rfl, qa_at1 83 (by decide +kernel) rfl, kz_X1⟩, by decide⟩
theorem op_X0_12 : qaPF RX0 12 0 0 (.object "AlwaysTheTopTwo$Linen") true := ⟨RX0, RX0, TX0, 10, tyX0, ⟨rfl, kinX0, by decide, qa_at1 112 (by decide +kernel) rfl, rfl⟩, tyX0_ok, nmX0, rfl, by decide +kernel, rfl⟩
theorem on_X0_18 : qaNew RX0 18 2 2 [.int 0, .null] := ⟨RX2, TX2, tyX2, rfl, kinX2, tyX2_ok, ⟨qa_at1 97 (by decide +kernel) rfl, qa_at1 98 (by decide +kernel) rfl, kz_X2⟩, by decide⟩
theorem op_X0_21 : qaPF RX0 21 0 1 (.object "AlwaysTheTopTwo$Pile") true := ⟨RX0, RX0, TX0, 10, tyX0, ⟨rfl, kinX0, by decide, qa_at1 114 (by decide +kernel) rfl, rfl⟩, tyX0_ok, nmX0, rfl, by decide +kernel, rfl⟩
theorem op_X0_25 : qaPF RX0 25 0 2 (.array .int) true := ⟨RX0, RX0, TX0, 10, tyX0, ⟨rfl, kinX0, by decide, qa_at1 116 (by decide +kernel) rfl, rfl⟩, tyX0_ok, nmX0, rfl, by decide +kernel, rfl⟩
theorem op_X0_29 : qaPF RX0 29 0 7 .int false := ⟨RX0, RX0, TX0, 10, tyX0, ⟨rfl, kinX0, by decide, qa_at1 126 (by decide +kernel) rfl, rfl⟩, tyX0_ok, nmX0, rfl, by decide +kernel, rfl⟩
theorem op_X0_33 : qaPF RX0 33 0 9 (.object "AlwaysTheTopTwo$Texts") true := ⟨RX0, RX0, TX0, 10, tyX0, ⟨rfl, kinX0, by decide, qa_at1 129 (by decide +kernel) rfl, rfl⟩, tyX0_ok, nmX0, rfl, by decide +kernel, rfl⟩
def ca_X0_33 : Nat → Int32 := upd (fun _ => 0) 0 (2)
def ca_X0_37 : Nat → Int32 := upd ca_X0_33 1 (1)
def ca_X0_41 : Nat → Int32 := upd ca_X0_37 2 (0)
def ca_X0_45 : Nat → Int32 := upd ca_X0_41 3 (0)
set_option maxRecDepth 100000 in
set_option maxHeartbeats 4000000 in
theorem ci_X0 (l : Launch) (D : va_G) (cI : ClassId) (h0 : Nat) (tx : Nat) : qaMc l D cI yX0_init cX0_init 2 2 5 72 [.ref h0, .ref tx] [(h0, .inr (0, [.null, .null, .null, .int 0, .int 0, .int 0, .int 0, .int 0, .int 0, .null]))] (fun u : Nat × Nat × Nat × Nat × Nat => [(h0, .inr (0, [.ref u.1, .ref u.2.2.1, .ref u.2.2.2.2, .int 0, .int 0, .int 0, .int 0, .int (-1), .int 0, .ref tx])), (u.1, .inr (1, [.int 0, .ref u.2.1])), (u.2.1, .inl (cI, 56, .inl (fun _ => 0))), (u.2.2.1, .inr (2, [.int 0, .ref u.2.2.2.1])), (u.2.2.2.1, .inl (cI, 8, .inl (fun _ => 0))), (u.2.2.2.2, .inl (cI, 4, .inl ca_X0_45))]) := by
  refine qw_ent (by decide +kernel) rfl (Nat.le_of_ble_eq_true rfl) fun X hC hI hQ => ?_
  refine qw_aload_n hC 0 rfl rfl dX0_init_0 ?_
  refine qw_oinit hC om_X0_3 om_inst om_code (by decide) (Nat.le_of_ble_eq_true rfl) dX0_init_1 ?_
  refine qw_aload_n hC 0 rfl rfl dX0_init_4 ?_
  refine qw_new hC on_X0_9 (by decide) (by decide) dX0_init_5 (fun q1 => ?_)
  show QW X D 2 [(h0, .inr (0, [.null, .null, .null, .int 0, .int 0, .int 0, .int 0, .int 0, .int 0, .null])), (q1, .inr (1, [.int 0, .null]))] 1 2 8 _ _
  refine qw_dup hC rfl dX0_init_8 ?_
  refine qw_callN hC (n := 0) (as := []) (wr := [(h0, .inr (0, [.null, .null, .null, .int 0, .int 0, .int 0, .int 0, .int 0, .int 0, .null]))]) (wc := [(q1, .inr (1, [.int 0, .null]))]) [1] [0] (ci_X1 l D cI q1) (fun _ h => h.2.2.1) kc_X1_init ki_X1_init kz_X1 rfl ⟨by decide +kernel, by decide +kernel, by decide +kernel⟩ rfl rfl rfl rfl rfl rfl (by decide) (by decide) (by decide) (by decide) (by decide) (Nat.le_of_ble_eq_true rfl) dX0_init_9 (fun u2 => ?_)
  show QW X D 2 [(h0, .inr (0, [.null, .null, .null, .int 0, .int 0, .int 0, .int 0, .int 0, .int 0, .null])), (q1, .inr (1, [.int 0, .ref u2])), (u2, .inl (cI, 56, .inl (fun _ => 0)))] 2 58 12 _ _
  refine qw_putF hC hI (ws' := [(h0, .inr (0, [.ref q1, .null, .null, .int 0, .int 0, .int 0, .int 0, .int 0, .int 0, .null])), (q1, .inr (1, [.int 0, .ref u2])), (u2, .inl (cI, 56, .inl (fun _ => 0)))]) 0 op_X0_12 rfl rfl rfl (Nat.le_of_ble_eq_true rfl) rfl dX0_init_12 ?_
  refine qw_aload_n hC 0 rfl rfl dX0_init_15 ?_
  refine qw_new hC on_X0_18 (by decide) (by decide) dX0_init_16 (fun q3 => ?_)
  show QW X D 2 [(h0, .inr (0, [.ref q1, .null, .null, .int 0, .int 0, .int 0, .int 0, .int 0, .int 0, .null])), (q1, .inr (1, [.int 0, .ref u2])), (u2, .inl (cI, 56, .inl (fun _ => 0))), (q3, .inr (2, [.int 0, .null]))] 3 60 19 _ _
  refine qw_dup hC rfl dX0_init_19 ?_
  refine qw_callN hC (n := 0) (as := []) (wr := [(h0, .inr (0, [.ref q1, .null, .null, .int 0, .int 0, .int 0, .int 0, .int 0, .int 0, .null])), (q1, .inr (1, [.int 0, .ref u2])), (u2, .inl (cI, 56, .inl (fun _ => 0)))]) (wc := [(q3, .inr (2, [.int 0, .null]))]) [3] [0, 1, 2] (ci_X2 l D cI q3) (fun _ h => h.2.2.2) kc_X2_init ki_X2_init kz_X2 rfl ⟨by decide +kernel, by decide +kernel, by decide +kernel⟩ rfl rfl rfl rfl rfl rfl (by decide) (by decide) (by decide) (by decide) (by decide) (Nat.le_of_ble_eq_true rfl) dX0_init_20 (fun u4 => ?_)
  show QW X D 2 [(h0, .inr (0, [.ref q1, .null, .null, .int 0, .int 0, .int 0, .int 0, .int 0, .int 0, .null])), (q1, .inr (1, [.int 0, .ref u2])), (u2, .inl (cI, 56, .inl (fun _ => 0))), (q3, .inr (2, [.int 0, .ref u4])), (u4, .inl (cI, 8, .inl (fun _ => 0)))] 4 68 23 _ _
  refine qw_putF hC hI (ws' := [(h0, .inr (0, [.ref q1, .ref q3, .null, .int 0, .int 0, .int 0, .int 0, .int 0, .int 0, .null])), (q1, .inr (1, [.int 0, .ref u2])), (u2, .inl (cI, 56, .inl (fun _ => 0))), (q3, .inr (2, [.int 0, .ref u4])), (u4, .inl (cI, 8, .inl (fun _ => 0)))]) 0 op_X0_21 rfl rfl rfl (Nat.le_of_ble_eq_true rfl) rfl dX0_init_23 ?_
  refine qw_aload_n hC 0 rfl rfl dX0_init_26 ?_
  refine qw_iconst hC dX0_init_27 kq_iconst_4 ?_
  refine qw_newa hC om_arr (by decide) tc_4 (by decide) (by decide) (by decide) dX0_init_28 (fun q5 => ?_)
  show QW X D 2 [(h0, .inr (0, [.ref q1, .ref q3, .null, .int 0, .int 0, .int 0, .int 0, .int 0, .int 0, .null])), (q1, .inr (1, [.int 0, .ref u2])), (u2, .inl (cI, 56, .inl (fun _ => 0))), (q3, .inr (2, [.int 0, .ref u4])), (u4, .inl (cI, 8, .inl (fun _ => 0))), (q5, .inl (cI, 4, .inl (fun _ => 0)))] 5 72 30 _ _
  refine qw_dup hC rfl dX0_init_30 ?_
  refine qw_iconst hC dX0_init_31 kq_iconst_0 ?_
  refine qw_iconst hC dX0_init_32 kq_iconst_2 ?_
  refine qw_iast hC (ws' := [(h0, .inr (0, [.ref q1, .ref q3, .null, .int 0, .int 0, .int 0, .int 0, .int 0, .int 0, .null])), (q1, .inr (1, [.int 0, .ref u2])), (u2, .inl (cI, 56, .inl (fun _ => 0))), (q3, .inr (2, [.int 0, .ref u4])), (u4, .inl (cI, 8, .inl (fun _ => 0))), (q5, .inl (cI, 4, .inl ca_X0_33))]) 5 rfl tc_0 vc_0_4 rfl dX0_init_33 ?_
  refine qw_dup hC rfl dX0_init_34 ?_
  refine qw_iconst hC dX0_init_35 kq_iconst_1 ?_
  refine qw_iconst hC dX0_init_36 kq_iconst_1 ?_
  refine qw_iast hC (ws' := [(h0, .inr (0, [.ref q1, .ref q3, .null, .int 0, .int 0, .int 0, .int 0, .int 0, .int 0, .null])), (q1, .inr (1, [.int 0, .ref u2])), (u2, .inl (cI, 56, .inl (fun _ => 0))), (q3, .inr (2, [.int 0, .ref u4])), (u4, .inl (cI, 8, .inl (fun _ => 0))), (q5, .inl (cI, 4, .inl ca_X0_37))]) 5 rfl tc_1 vc_1_4 rfl dX0_init_37 ?_
  refine qw_dup hC rfl dX0_init_38 ?_
  refine qw_iconst hC dX0_init_39 kq_iconst_2 ?_
  refine qw_iconst hC dX0_init_40 kq_iconst_0 ?_
  refine qw_iast hC (ws' := [(h0, .inr (0, [.ref q1, .ref q3, .null, .int 0, .int 0, .int 0, .int 0, .int 0, .int 0, .null])), (q1, .inr (1, [.int 0, .ref u2])), (u2, .inl (cI, 56, .inl (fun _ => 0))), (q3, .inr (2, [.int 0, .ref u4])), (u4, .inl (cI, 8, .inl (fun _ => 0))), (q5, .inl (cI, 4, .inl ca_X0_41))]) 5 rfl tc_2 vc_2_4 rfl dX0_init_41 ?_
  refine qw_dup hC rfl dX0_init_42 ?_
  refine qw_iconst hC dX0_init_43 kq_iconst_3 ?_
  refine qw_iconst hC dX0_init_44 kq_iconst_0 ?_
  refine qw_iast hC (ws' := [(h0, .inr (0, [.ref q1, .ref q3, .null, .int 0, .int 0, .int 0, .int 0, .int 0, .int 0, .null])), (q1, .inr (1, [.int 0, .ref u2])), (u2, .inl (cI, 56, .inl (fun _ => 0))), (q3, .inr (2, [.int 0, .ref u4])), (u4, .inl (cI, 8, .inl (fun _ => 0))), (q5, .inl (cI, 4, .inl ca_X0_45))]) 5 rfl tc_3 vc_3_4 rfl dX0_init_45 ?_
  refine qw_putF hC hI (ws' := [(h0, .inr (0, [.ref q1, .ref q3, .ref q5, .int 0, .int 0, .int 0, .int 0, .int 0, .int 0, .null])), (q1, .inr (1, [.int 0, .ref u2])), (u2, .inl (cI, 56, .inl (fun _ => 0))), (q3, .inr (2, [.int 0, .ref u4])), (u4, .inl (cI, 8, .inl (fun _ => 0))), (q5, .inl (cI, 4, .inl ca_X0_45))]) 0 op_X0_25 rfl rfl rfl (Nat.le_of_ble_eq_true rfl) rfl dX0_init_46 ?_
  refine qw_aload_n hC 0 rfl rfl dX0_init_49 ?_
  refine qw_iconst hC dX0_init_50 kq_iconst_m1 ?_
  refine qw_put hC (ws' := [(h0, .inr (0, [.ref q1, .ref q3, .ref q5, .int 0, .int 0, .int 0, .int 0, .int (-1), .int 0, .null])), (q1, .inr (1, [.int 0, .ref u2])), (u2, .inl (cI, 56, .inl (fun _ => 0))), (q3, .inr (2, [.int 0, .ref u4])), (u4, .inl (cI, 8, .inl (fun _ => 0))), (q5, .inl (cI, 4, .inl ca_X0_45))]) 0 op_X0_29 rfl rfl rfl (Nat.le_of_ble_eq_true rfl) rfl dX0_init_51 ?_
  refine qw_aload_n hC 0 rfl rfl dX0_init_54 ?_
  refine qw_aload_n hC 1 rfl rfl dX0_init_55 ?_
  refine qw_putF hC hI (ws' := [(h0, .inr (0, [.ref q1, .ref q3, .ref q5, .int 0, .int 0, .int 0, .int 0, .int (-1), .int 0, .ref tx])), (q1, .inr (1, [.int 0, .ref u2])), (u2, .inl (cI, 56, .inl (fun _ => 0))), (q3, .inr (2, [.int 0, .ref u4])), (u4, .inl (cI, 8, .inl (fun _ => 0))), (q5, .inl (cI, 4, .inl ca_X0_45))]) 0 op_X0_33 rfl rfl rfl (Nat.le_of_ble_eq_true rfl) rfl dX0_init_56 ?_
  exact qw_vret hC hQ (q1, u2, q3, u4, q5) rfl rfl rfl dX0_init_59
theorem om_X6_1 : Cond.methodLink RX6 1 objectInit ∈ qaWL := qa_at1 20 (by decide +kernel) rfl
theorem on_X6_7 : qaNew RX6 7 5 6 [.int 0, .null, .null, .null, .null, .int 0] := ⟨RX5, TX5, tyX5, rfl, kinX5, tyX5_ok, ⟨qa_at1 23 (by decide +kernel) rfl, qa_at1 24 (by decide +kernel) rfl, kz_X5⟩, by decide⟩
theorem om_X6_9 : Cond.methodLink RX6 9 yX5_init ∈ qaWL := qa_at1 25 (by decide +kernel) rfl
theorem op_X6_10 : qaPF RX6 10 6 0 (.object "AlwaysTheTopTwo$Texts") true := ⟨RX6, RX6, TX6, 8, tyX6, ⟨rfl, kinX6, by decide, qa_at1 169 (by decide +kernel) rfl, rfl⟩, tyX6_ok, nmX6, rfl, by decide +kernel, rfl⟩
theorem on_X6_16 : qaNew RX6 16 4 6 [.int 0, .null, .int 0, .int 0, .int 0, .int 0] := ⟨RX4, TX4, tyX4, rfl, kinX4, tyX4_ok, ⟨qa_at1 50 (by decide +kernel) rfl, qa_at1 51 (by decide +kernel) rfl, kz_X4⟩, by decide⟩
theorem op_X6_19 : qaPF RX6 19 6 1 (.object "AlwaysTheTopTwo$Tape") true := ⟨RX6, RX6, TX6, 8, tyX6, ⟨rfl, kinX6, by decide, qa_at1 170 (by decide +kernel) rfl, rfl⟩, tyX6_ok, nmX6, rfl, by decide +kernel, rfl⟩
theorem on_X6_23 : qaNew RX6 23 0 10 [.null, .null, .null, .int 0, .int 0, .int 0, .int 0, .int 0, .int 0, .null] := ⟨RX0, TX0, tyX0, rfl, kinX0, tyX0_ok, ⟨qa_at1 76 (by decide +kernel) rfl, qa_at1 77 (by decide +kernel) rfl, kz_X0⟩, by decide⟩
theorem om_X6_25 : Cond.methodLink RX6 25 yX0_init ∈ qaWL := qa_at1 78 (by decide +kernel) rfl
theorem op_X6_28 : qaPF RX6 28 6 2 (.object "AlwaysTheTopTwo$House") true := ⟨RX6, RX6, TX6, 8, tyX6, ⟨rfl, kinX6, by decide, qa_at1 171 (by decide +kernel) rfl, rfl⟩, tyX6_ok, nmX6, rfl, by decide +kernel, rfl⟩
theorem op_X6_32 : qaPF RX6 32 6 3 (.object "AlwaysTheTopTwo$House") true := ⟨RX6, RX6, TX6, 8, tyX6, ⟨rfl, kinX6, by decide, qa_at1 172 (by decide +kernel) rfl, rfl⟩, tyX6_ok, nmX6, rfl, by decide +kernel, rfl⟩
theorem op_X6_35 : qaPF RX6 35 6 4 (.object "AlwaysTheTopTwo$House") true := ⟨RX6, RX6, TX6, 8, tyX6, ⟨rfl, kinX6, by decide, qa_at1 173 (by decide +kernel) rfl, rfl⟩, tyX6_ok, nmX6, rfl, by decide +kernel, rfl⟩
theorem op_X6_38 : qaPF RX6 38 6 5 (.object "AlwaysTheTopTwo$House") true := ⟨RX6, RX6, TX6, 8, tyX6, ⟨rfl, kinX6, by decide, qa_at1 174 (by decide +kernel) rfl, rfl⟩, tyX6_ok, nmX6, rfl, by decide +kernel, rfl⟩
theorem on_X6_41 : qaNew RX6 41 3 3 [.null, .null, .null] := ⟨RX3, TX3, tyX3, rfl, kinX3, tyX3_ok, ⟨qa_at1 151 (by decide +kernel) rfl, qa_at1 152 (by decide +kernel) rfl, kz_X3⟩, by decide⟩
theorem op_X6_44 : qaPF RX6 44 6 6 (.object "AlwaysTheTopTwo$Sheets") true := ⟨RX6, RX6, TX6, 8, tyX6, ⟨rfl, kinX6, by decide, qa_at1 175 (by decide +kernel) rfl, rfl⟩, tyX6_ok, nmX6, rfl, by decide +kernel, rfl⟩
theorem op_X6_48 : qaPF RX6 48 6 7 .boolean false := ⟨RX6, RX6, TX6, 8, tyX6, ⟨rfl, kinX6, by decide, qa_at1 176 (by decide +kernel) rfl, rfl⟩, tyX6_ok, nmX6, rfl, by decide +kernel, rfl⟩
set_option maxRecDepth 100000 in
set_option maxHeartbeats 4000000 in
theorem ci_X6 (l : Launch) (D : va_G) (cI : ClassId) (h0 : Nat) : qaMc l D cI yX6_init cX6_init 1 3 35 1815 [.ref h0] [(h0, .inr (6, [.null, .null, .null, .null, .null, .null, .null, .int 0]))] (fun u : Nat × Nat × Nat × Nat × Nat × Nat × Nat × Nat × Nat × Nat × Nat × Nat × Nat × Nat × Nat × Nat × Nat × Nat × Nat × Nat × Nat × Nat × Nat × Nat × Nat × Nat × Nat × Nat × Nat × Nat × Nat × Nat × Nat × Nat × Nat => [(h0, .inr (6, [.ref u.1, .ref u.2.2.2.2.2.1, .ref u.2.2.2.2.2.2.2.1, .ref u.2.2.2.2.2.2.2.2.2.2.2.2.2.1, .ref u.2.2.2.2.2.2.2.2.2.2.2.2.2.2.2.2.2.2.2.1, .ref u.2.2.2.2.2.2.2.2.2.2.2.2.2.2.2.2.2.2.2.2.2.2.2.2.2.1, .ref u.2.2.2.2.2.2.2.2.2.2.2.2.2.2.2.2.2.2.2.2.2.2.2.2.2.2.2.2.2.2.2.1, .int 0])), (u.1, .inr (5, [.int 1, .ref u.2.1, .ref u.2.2.1, .ref u.2.2.2.1, .ref u.2.2.2.2.1, .int 0])), (u.2.1, .inl (cI, 960, .inl ca_X5_65)), (u.2.2.1, .inl (cI, 18, .inl ca_X5_86)), (u.2.2.2.1, .inl (cI, 6, .inl (fun _ => 0))), (u.2.2.2.2.1, .inl (cI, 160, .inl (fun _ => 0))), (u.2.2.2.2.2.1, .inr (4, [.int 0, .ref u.2.2.2.2.2.2.1, .int 0, .int 0, .int 0, .int 0])), (u.2.2.2.2.2.2.1, .inl (cI, 160, .inl (fun _ => 0))), (u.2.2.2.2.2.2.2.1, .inr (0, [.ref u.2.2.2.2.2.2.2.2.1, .ref u.2.2.2.2.2.2.2.2.2.2.1, .ref u.2.2.2.2.2.2.2.2.2.2.2.2.1, .int 0, .int 0, .int 0, .int 0, .int (-1), .int 0, .ref u.1])), (u.2.2.2.2.2.2.2.2.1, .inr (1, [.int 0, .ref u.2.2.2.2.2.2.2.2.2.1])), (u.2.2.2.2.2.2.2.2.2.1, .inl (cI, 56, .inl (fun _ => 0))), (u.2.2.2.2.2.2.2.2.2.2.1, .inr (2, [.int 0, .ref u.2.2.2.2.2.2.2.2.2.2.2.1])), (u.2.2.2.2.2.2.2.2.2.2.2.1, .inl (cI, 8, .inl (fun _ => 0))), (u.2.2.2.2.2.2.2.2.2.2.2.2.1, .inl (cI, 4, .inl ca_X0_45)), (u.2.2.2.2.2.2.2.2.2.2.2.2.2.1, .inr (0, [.ref u.2.2.2.2.2.2.2.2.2.2.2.2.2.2.1, .ref u.2.2.2.2.2.2.2.2.2.2.2.2.2.2.2.2.1, .ref u.2.2.2.2.2.2.2.2.2.2.2.2.2.2.2.2.2.2.1, .int 0, .int 0, .int 0, .int 0, .int (-1), .int 0, .ref u.1])), (u.2.2.2.2.2.2.2.2.2.2.2.2.2.2.1, .inr (1, [.int 0, .ref u.2.2.2.2.2.2.2.2.2.2.2.2.2.2.2.1])), (u.2.2.2.2.2.2.2.2.2.2.2.2.2.2.2.1, .inl (cI, 56, .inl (fun _ => 0))), (u.2.2.2.2.2.2.2.2.2.2.2.2.2.2.2.2.1, .inr (2, [.int 0, .ref u.2.2.2.2.2.2.2.2.2.2.2.2.2.2.2.2.2.1])), (u.2.2.2.2.2.2.2.2.2.2.2.2.2.2.2.2.2.1, .inl (cI, 8, .inl (fun _ => 0))), (u.2.2.2.2.2.2.2.2.2.2.2.2.2.2.2.2.2.2.1, .inl (cI, 4, .inl ca_X0_45)), (u.2.2.2.2.2.2.2.2.2.2.2.2.2.2.2.2.2.2.2.1, .inr (0, [.ref u.2.2.2.2.2.2.2.2.2.2.2.2.2.2.2.2.2.2.2.2.1, .ref u.2.2.2.2.2.2.2.2.2.2.2.2.2.2.2.2.2.2.2.2.2.2.1, .ref u.2.2.2.2.2.2.2.2.2.2.2.2.2.2.2.2.2.2.2.2.2.2.2.2.1, .int 0, .int 0, .int 0, .int 0, .int (-1), .int 0, .ref u.1])), (u.2.2.2.2.2.2.2.2.2.2.2.2.2.2.2.2.2.2.2.2.1, .inr (1, [.int 0, .ref u.2.2.2.2.2.2.2.2.2.2.2.2.2.2.2.2.2.2.2.2.2.1])), (u.2.2.2.2.2.2.2.2.2.2.2.2.2.2.2.2.2.2.2.2.2.1, .inl (cI, 56, .inl (fun _ => 0))), (u.2.2.2.2.2.2.2.2.2.2.2.2.2.2.2.2.2.2.2.2.2.2.1, .inr (2, [.int 0, .ref u.2.2.2.2.2.2.2.2.2.2.2.2.2.2.2.2.2.2.2.2.2.2.2.1])), (u.2.2.2.2.2.2.2.2.2.2.2.2.2.2.2.2.2.2.2.2.2.2.2.1, .inl (cI, 8, .inl (fun _ => 0))), (u.2.2.2.2.2.2.2.2.2.2.2.2.2.2.2.2.2.2.2.2.2.2.2.2.1, .inl (cI, 4, .inl ca_X0_45)), (u.2.2.2.2.2.2.2.2.2.2.2.2.2.2.2.2.2.2.2.2.2.2.2.2.2.1, .inr (0, [.ref u.2.2.2.2.2.2.2.2.2.2.2.2.2.2.2.2.2.2.2.2.2.2.2.2.2.2.1, .ref u.2.2.2.2.2.2.2.2.2.2.2.2.2.2.2.2.2.2.2.2.2.2.2.2.2.2.2.2.1, .ref u.2.2.2.2.2.2.2.2.2.2.2.2.2.2.2.2.2.2.2.2.2.2.2.2.2.2.2.2.2.2.1, .int 0, .int 0, .int 0, .int 0, .int (-1), .int 0, .ref u.1])), (u.2.2.2.2.2.2.2.2.2.2.2.2.2.2.2.2.2.2.2.2.2.2.2.2.2.2.1, .inr (1, [.int 0, .ref u.2.2.2.2.2.2.2.2.2.2.2.2.2.2.2.2.2.2.2.2.2.2.2.2.2.2.2.1])), (u.2.2.2.2.2.2.2.2.2.2.2.2.2.2.2.2.2.2.2.2.2.2.2.2.2.2.2.1, .inl (cI, 56, .inl (fun _ => 0))), (u.2.2.2.2.2.2.2.2.2.2.2.2.2.2.2.2.2.2.2.2.2.2.2.2.2.2.2.2.1, .inr (2, [.int 0, .ref u.2.2.2.2.2.2.2.2.2.2.2.2.2.2.2.2.2.2.2.2.2.2.2.2.2.2.2.2.2.1])), (u.2.2.2.2.2.2.2.2.2.2.2.2.2.2.2.2.2.2.2.2.2.2.2.2.2.2.2.2.2.1, .inl (cI, 8, .inl (fun _ => 0))), (u.2.2.2.2.2.2.2.2.2.2.2.2.2.2.2.2.2.2.2.2.2.2.2.2.2.2.2.2.2.2.1, .inl (cI, 4, .inl ca_X0_45)), (u.2.2.2.2.2.2.2.2.2.2.2.2.2.2.2.2.2.2.2.2.2.2.2.2.2.2.2.2.2.2.2.1, .inr (3, [.ref u.2.2.2.2.2.2.2.2.2.2.2.2.2.2.2.2.2.2.2.2.2.2.2.2.2.2.2.2.2.2.2.2.1, .ref u.2.2.2.2.2.2.2.2.2.2.2.2.2.2.2.2.2.2.2.2.2.2.2.2.2.2.2.2.2.2.2.2.2.1, .ref u.2.2.2.2.2.2.2.2.2.2.2.2.2.2.2.2.2.2.2.2.2.2.2.2.2.2.2.2.2.2.2.2.2.2])), (u.2.2.2.2.2.2.2.2.2.2.2.2.2.2.2.2.2.2.2.2.2.2.2.2.2.2.2.2.2.2.2.2.1, .inl (cI, 4, .inl ca_X3_23)), (u.2.2.2.2.2.2.2.2.2.2.2.2.2.2.2.2.2.2.2.2.2.2.2.2.2.2.2.2.2.2.2.2.2.1, .inl (cI, 4, .inl (fun _ => 0))), (u.2.2.2.2.2.2.2.2.2.2.2.2.2.2.2.2.2.2.2.2.2.2.2.2.2.2.2.2.2.2.2.2.2.2, .inl (cI, 160, .inl (fun _ => 0)))]) := by
  refine qw_ent (by decide +kernel) rfl (Nat.le_of_ble_eq_true rfl) fun X hC hI hQ => ?_
  refine qw_aload_n hC 0 rfl rfl dX6_init_0 ?_
  refine qw_oinit hC om_X6_1 om_inst om_code (by decide) (Nat.le_of_ble_eq_true rfl) dX6_init_1 ?_
  refine qw_aload_n hC 0 rfl rfl dX6_init_4 ?_
  refine qw_new hC on_X6_7 (by decide) (by decide) dX6_init_5 (fun q1 => ?_)
  show QW X D 1 [(h0, .inr (6, [.null, .null, .null, .null, .null, .null, .null, .int 0])), (q1, .inr (5, [.int 0, .null, .null, .null, .null, .int 0]))] 1 6 8 _ _
  refine qw_dup hC rfl dX6_init_8 ?_
  refine qw_call hC (n := 0) (as := []) (wr := [(h0, .inr (6, [.null, .null, .null, .null, .null, .null, .null, .int 0]))]) (wc := [(q1, .inr (5, [.int 0, .null, .null, .null, .null, .int 0]))]) [1] [0] (ci_X5 l D cI q1) om_X6_9 kc_X5_init ki_X5_init kz_X5 rfl ⟨by decide +kernel, by decide +kernel, by decide +kernel⟩ rfl rfl rfl rfl rfl rfl (by decide) (by decide) (by decide) (by decide) (by decide) (Nat.le_of_ble_eq_true rfl) dX6_init_9 (fun u2 => ?_)
  show QW X D 1 [(h0, .inr (6, [.null, .null, .null, .null, .null, .null, .null, .int 0])), (q1, .inr (5, [.int 1, .ref u2.1, .ref u2.2.1, .ref u2.2.2.1, .ref u2.2.2.2, .int 0])), (u2.1, .inl (cI, 960, .inl ca_X5_65)), (u2.2.1, .inl (cI, 18, .inl ca_X5_86)), (u2.2.2.1, .inl (cI, 6, .inl (fun _ => 0))), (u2.2.2.2, .inl (cI, 160, .inl (fun _ => 0)))] 5 1150 12 _ _
  refine qw_putF hC hI (ws' := [(h0, .inr (6, [.ref q1, .null, .null, .null, .null, .null, .null, .int 0])), (q1, .inr (5, [.int 1, .ref u2.1, .ref u2.2.1, .ref u2.2.2.1, .ref u2.2.2.2, .int 0])), (u2.1, .inl (cI, 960, .inl ca_X5_65)), (u2.2.1, .inl (cI, 18, .inl ca_X5_86)), (u2.2.2.1, .inl (cI, 6, .inl (fun _ => 0))), (u2.2.2.2, .inl (cI, 160, .inl (fun _ => 0)))]) 0 op_X6_10 rfl rfl rfl (Nat.le_of_ble_eq_true rfl) rfl dX6_init_12 ?_
  refine qw_aload_n hC 0 rfl rfl dX6_init_15 ?_
  refine qw_new hC on_X6_16 (by decide) (by decide) dX6_init_16 (fun q3 => ?_)
  show QW X D 1 [(h0, .inr (6, [.ref q1, .null, .null, .null, .null, .null, .null, .int 0])), (q1, .inr (5, [.int 1, .ref u2.1, .ref u2.2.1, .ref u2.2.2.1, .ref u2.2.2.2, .int 0])), (u2.1, .inl (cI, 960, .inl ca_X5_65)), (u2.2.1, .inl (cI, 18, .inl ca_X5_86)), (u2.2.2.1, .inl (cI, 6, .inl (fun _ => 0))), (u2.2.2.2, .inl (cI, 160, .inl (fun _ => 0))), (q3, .inr (4, [.int 0, .null, .int 0, .int 0, .int 0, .int 0]))] 6 1156 19 _ _
  refine qw_dup hC rfl dX6_init_19 ?_
  refine qw_callN hC (n := 0) (as := []) (wr := [(h0, .inr (6, [.ref q1, .null, .null, .null, .null, .null, .null, .int 0])), (q1, .inr (5, [.int 1, .ref u2.1, .ref u2.2.1, .ref u2.2.2.1, .ref u2.2.2.2, .int 0])), (u2.1, .inl (cI, 960, .inl ca_X5_65)), (u2.2.1, .inl (cI, 18, .inl ca_X5_86)), (u2.2.2.1, .inl (cI, 6, .inl (fun _ => 0))), (u2.2.2.2, .inl (cI, 160, .inl (fun _ => 0)))]) (wc := [(q3, .inr (4, [.int 0, .null, .int 0, .int 0, .int 0, .int 0]))]) [6] [0, 1, 2, 3, 4, 5] (ci_X4 l D cI q3) (fun _ h => h.1) kc_X4_init ki_X4_init kz_X4 rfl ⟨by decide +kernel, by decide +kernel, by decide +kernel⟩ rfl rfl rfl rfl rfl rfl (by decide) (by decide) (by decide) (by decide) (by decide) (Nat.le_of_ble_eq_true rfl) dX6_init_20 (fun u4 => ?_)
  show QW X D 1 [(h0, .inr (6, [.ref q1, .null, .null, .null, .null, .null, .null, .int 0])), (q1, .inr (5, [.int 1, .ref u2.1, .ref u2.2.1, .ref u2.2.2.1, .ref u2.2.2.2, .int 0])), (u2.1, .inl (cI, 960, .inl ca_X5_65)), (u2.2.1, .inl (cI, 18, .inl ca_X5_86)), (u2.2.2.1, .inl (cI, 6, .inl (fun _ => 0))), (u2.2.2.2, .inl (cI, 160, .inl (fun _ => 0))), (q3, .inr (4, [.int 0, .ref u4, .int 0, .int 0, .int 0, .int 0])), (u4, .inl (cI, 160, .inl (fun _ => 0)))] 7 1316 23 _ _
  refine qw_putF hC hI (ws' := [(h0, .inr (6, [.ref q1, .ref q3, .null, .null, .null, .null, .null, .int 0])), (q1, .inr (5, [.int 1, .ref u2.1, .ref u2.2.1, .ref u2.2.2.1, .ref u2.2.2.2, .int 0])), (u2.1, .inl (cI, 960, .inl ca_X5_65)), (u2.2.1, .inl (cI, 18, .inl ca_X5_86)), (u2.2.2.1, .inl (cI, 6, .inl (fun _ => 0))), (u2.2.2.2, .inl (cI, 160, .inl (fun _ => 0))), (q3, .inr (4, [.int 0, .ref u4, .int 0, .int 0, .int 0, .int 0])), (u4, .inl (cI, 160, .inl (fun _ => 0)))]) 0 op_X6_19 rfl rfl rfl (Nat.le_of_ble_eq_true rfl) rfl dX6_init_23 ?_
  refine qw_aload_n hC 0 rfl rfl dX6_init_26 ?_
  refine qw_new hC on_X6_23 (by decide) (by decide) dX6_init_27 (fun q5 => ?_)
  show QW X D 1 [(h0, .inr (6, [.ref q1, .ref q3, .null, .null, .null, .null, .null, .int 0])), (q1, .inr (5, [.int 1, .ref u2.1, .ref u2.2.1, .ref u2.2.2.1, .ref u2.2.2.2, .int 0])), (u2.1, .inl (cI, 960, .inl ca_X5_65)), (u2.2.1, .inl (cI, 18, .inl ca_X5_86)), (u2.2.2.1, .inl (cI, 6, .inl (fun _ => 0))), (u2.2.2.2, .inl (cI, 160, .inl (fun _ => 0))), (q3, .inr (4, [.int 0, .ref u4, .int 0, .int 0, .int 0, .int 0])), (u4, .inl (cI, 160, .inl (fun _ => 0))), (q5, .inr (0, [.null, .null, .null, .int 0, .int 0, .int 0, .int 0, .int 0, .int 0, .null]))] 8 1326 30 _ _
  refine qw_dup hC rfl dX6_init_30 ?_
  refine qw_aload_n hC 0 rfl rfl dX6_init_31 ?_
  refine qw_getr hC 0 kf_X6_10 rfl rfl dX6_init_32 ?_
  refine qw_call hC (n := 1) (as := [.ref q1]) (wr := [(h0, .inr (6, [.ref q1, .ref q3, .null, .null, .null, .null, .null, .int 0])), (q1, .inr (5, [.int 1, .ref u2.1, .ref u2.2.1, .ref u2.2.2.1, .ref u2.2.2.2, .int 0])), (u2.1, .inl (cI, 960, .inl ca_X5_65)), (u2.2.1, .inl (cI, 18, .inl ca_X5_86)), (u2.2.2.1, .inl (cI, 6, .inl (fun _ => 0))), (u2.2.2.2, .inl (cI, 160, .inl (fun _ => 0))), (q3, .inr (4, [.int 0, .ref u4, .int 0, .int 0, .int 0, .int 0])), (u4, .inl (cI, 160, .inl (fun _ => 0)))]) (wc := [(q5, .inr (0, [.null, .null, .null, .int 0, .int 0, .int 0, .int 0, .int 0, .int 0, .null]))]) [8] [0, 1, 2, 3, 4, 5, 6, 7] (ci_X0 l D cI q5 q1) om_X6_25 kc_X0_init ki_X0_init kz_X0 rfl ⟨by decide +kernel, by decide +kernel, by decide +kernel⟩ rfl rfl rfl rfl rfl rfl (by decide) (by decide) (by decide) (by decide) (by decide) (Nat.le_of_ble_eq_true rfl) dX6_init_35 (fun u6 => ?_)
  show QW X D 1 [(h0, .inr (6, [.ref q1, .ref q3, .null, .null, .null, .null, .null, .int 0])), (q1, .inr (5, [.int 1, .ref u2.1, .ref u2.2.1, .ref u2.2.2.1, .ref u2.2.2.2, .int 0])), (u2.1, .inl (cI, 960, .inl ca_X5_65)), (u2.2.1, .inl (cI, 18, .inl ca_X5_86)), (u2.2.2.1, .inl (cI, 6, .inl (fun _ => 0))), (u2.2.2.2, .inl (cI, 160, .inl (fun _ => 0))), (q3, .inr (4, [.int 0, .ref u4, .int 0, .int 0, .int 0, .int 0])), (u4, .inl (cI, 160, .inl (fun _ => 0))), (q5, .inr (0, [.ref u6.1, .ref u6.2.2.1, .ref u6.2.2.2.2, .int 0, .int 0, .int 0, .int 0, .int (-1), .int 0, .ref q1])), (u6.1, .inr (1, [.int 0, .ref u6.2.1])), (u6.2.1, .inl (cI, 56, .inl (fun _ => 0))), (u6.2.2.1, .inr (2, [.int 0, .ref u6.2.2.2.1])), (u6.2.2.2.1, .inl (cI, 8, .inl (fun _ => 0))), (u6.2.2.2.2, .inl (cI, 4, .inl ca_X0_45))] 13 1398 38 _ _
  refine qw_putF hC hI (ws' := [(h0, .inr (6, [.ref q1, .ref q3, .ref q5, .null, .null, .null, .null, .int 0])), (q1, .inr (5, [.int 1, .ref u2.1, .ref u2.2.1, .ref u2.2.2.1, .ref u2.2.2.2, .int 0])), (u2.1, .inl (cI, 960, .inl ca_X5_65)), (u2.2.1, .inl (cI, 18, .inl ca_X5_86)), (u2.2.2.1, .inl (cI, 6, .inl (fun _ => 0))), (u2.2.2.2, .inl (cI, 160, .inl (fun _ => 0))), (q3, .inr (4, [.int 0, .ref u4, .int 0, .int 0, .int 0, .int 0])), (u4, .inl (cI, 160, .inl (fun _ => 0))), (q5, .inr (0, [.ref u6.1, .ref u6.2.2.1, .ref u6.2.2.2.2, .int 0, .int 0, .int 0, .int 0, .int (-1), .int 0, .ref q1])), (u6.1, .inr (1, [.int 0, .ref u6.2.1])), (u6.2.1, .inl (cI, 56, .inl (fun _ => 0))), (u6.2.2.1, .inr (2, [.int 0, .ref u6.2.2.2.1])), (u6.2.2.2.1, .inl (cI, 8, .inl (fun _ => 0))), (u6.2.2.2.2, .inl (cI, 4, .inl ca_X0_45))]) 0 op_X6_28 rfl rfl rfl (Nat.le_of_ble_eq_true rfl) rfl dX6_init_38 ?_
  refine qw_aload_n hC 0 rfl rfl dX6_init_41 ?_
  refine qw_new hC on_X6_23 (by decide) (by decide) dX6_init_42 (fun q7 => ?_)
  show QW X D 1 [(h0, .inr (6, [.ref q1, .ref q3, .ref q5, .null, .null, .null, .null, .int 0])), (q1, .inr (5, [.int 1, .ref u2.1, .ref u2.2.1, .ref u2.2.2.1, .ref u2.2.2.2, .int 0])), (u2.1, .inl (cI, 960, .inl ca_X5_65)), (u2.2.1, .inl (cI, 18, .inl ca_X5_86)), (u2.2.2.1, .inl (cI, 6, .inl (fun _ => 0))), (u2.2.2.2, .inl (cI, 160, .inl (fun _ => 0))), (q3, .inr (4, [.int 0, .ref u4, .int 0, .int 0, .int 0, .int 0])), (u4, .inl (cI, 160, .inl (fun _ => 0))), (q5, .inr (0, [.ref u6.1, .ref u6.2.2.1, .ref u6.2.2.2.2, .int 0, .int 0, .int 0, .int 0, .int (-1), .int 0, .ref q1])), (u6.1, .inr (1, [.int 0, .ref u6.2.1])), (u6.2.1, .inl (cI, 56, .inl (fun _ => 0))), (u6.2.2.1, .inr (2, [.int 0, .ref u6.2.2.2.1])), (u6.2.2.2.1, .inl (cI, 8, .inl (fun _ => 0))), (u6.2.2.2.2, .inl (cI, 4, .inl ca_X0_45)), (q7, .inr (0, [.null, .null, .null, .int 0, .int 0, .int 0, .int 0, .int 0, .int 0, .null]))] 14 1408 45 _ _
  refine qw_dup hC rfl dX6_init_45 ?_
  refine qw_aload_n hC 0 rfl rfl dX6_init_46 ?_
  refine qw_getr hC 0 kf_X6_10 rfl rfl dX6_init_47 ?_
  refine qw_call hC (n := 1) (as := [.ref q1]) (wr := [(h0, .inr (6, [.ref q1, .ref q3, .ref q5, .null, .null, .null, .null, .int 0])), (q1, .inr (5, [.int 1, .ref u2.1, .ref u2.2.1, .ref u2.2.2.1, .ref u2.2.2.2, .int 0])), (u2.1, .inl (cI, 960, .inl ca_X5_65)), (u2.2.1, .inl (cI, 18, .inl ca_X5_86)), (u2.2.2.1, .inl (cI, 6, .inl (fun _ => 0))), (u2.2.2.2, .inl (cI, 160, .inl (fun _ => 0))), (q3, .inr (4, [.int 0, .ref u4, .int 0, .int 0, .int 0, .int 0])), (u4, .inl (cI, 160, .inl (fun _ => 0))), (q5, .inr (0, [.ref u6.1, .ref u6.2.2.1, .ref u6.2.2.2.2, .int 0, .int 0, .int 0, .int 0, .int (-1), .int 0, .ref q1])), (u6.1, .inr (1, [.int 0, .ref u6.2.1])), (u6.2.1, .inl (cI, 56, .inl (fun _ => 0))), (u6.2.2.1, .inr (2, [.int 0, .ref u6.2.2.2.1])), (u6.2.2.2.1, .inl (cI, 8, .inl (fun _ => 0))), (u6.2.2.2.2, .inl (cI, 4, .inl ca_X0_45))]) (wc := [(q7, .inr (0, [.null, .null, .null, .int 0, .int 0, .int 0, .int 0, .int 0, .int 0, .null]))]) [14] [0, 1, 2, 3, 4, 5, 6, 7, 8, 9, 10, 11, 12, 13] (ci_X0 l D cI q7 q1) om_X6_25 kc_X0_init ki_X0_init kz_X0 rfl ⟨by decide +kernel, by decide +kernel, by decide +kernel⟩ rfl rfl rfl rfl rfl rfl (by decide) (by decide) (by decide) (by decide) (by decide) (Nat.le_of_ble_eq_true rfl) dX6_init_50 (fun u8 => ?_)
  show QW X D 1 [(h0, .inr (6, [.ref q1, .ref q3, .ref q5, .null, .null, .null, .null, .int 0])), (q1, .inr (5, [.int 1, .ref u2.1, .ref u2.2.1, .ref u2.2.2.1, .ref u2.2.2.2, .int 0])), (u2.1, .inl (cI, 960, .inl ca_X5_65)), (u2.2.1, .inl (cI, 18, .inl ca_X5_86)), (u2.2.2.1, .inl (cI, 6, .inl (fun _ => 0))), (u2.2.2.2, .inl (cI, 160, .inl (fun _ => 0))), (q3, .inr (4, [.int 0, .ref u4, .int 0, .int 0, .int 0, .int 0])), (u4, .inl (cI, 160, .inl (fun _ => 0))), (q5, .inr (0, [.ref u6.1, .ref u6.2.2.1, .ref u6.2.2.2.2, .int 0, .int 0, .int 0, .int 0, .int (-1), .int 0, .ref q1])), (u6.1, .inr (1, [.int 0, .ref u6.2.1])), (u6.2.1, .inl (cI, 56, .inl (fun _ => 0))), (u6.2.2.1, .inr (2, [.int 0, .ref u6.2.2.2.1])), (u6.2.2.2.1, .inl (cI, 8, .inl (fun _ => 0))), (u6.2.2.2.2, .inl (cI, 4, .inl ca_X0_45)), (q7, .inr (0, [.ref u8.1, .ref u8.2.2.1, .ref u8.2.2.2.2, .int 0, .int 0, .int 0, .int 0, .int (-1), .int 0, .ref q1])), (u8.1, .inr (1, [.int 0, .ref u8.2.1])), (u8.2.1, .inl (cI, 56, .inl (fun _ => 0))), (u8.2.2.1, .inr (2, [.int 0, .ref u8.2.2.2.1])), (u8.2.2.2.1, .inl (cI, 8, .inl (fun _ => 0))), (u8.2.2.2.2, .inl (cI, 4, .inl ca_X0_45))] 19 1480 53 _ _
  refine qw_putF hC hI (ws' := [(h0, .inr (6, [.ref q1, .ref q3, .ref q5, .ref q7, .null, .null, .null, .int 0])), (q1, .inr (5, [.int 1, .ref u2.1, .ref u2.2.1, .ref u2.2.2.1, .ref u2.2.2.2, .int 0])), (u2.1, .inl (cI, 960, .inl ca_X5_65)), (u2.2.1, .inl (cI, 18, .inl ca_X5_86)), (u2.2.2.1, .inl (cI, 6, .inl (fun _ => 0))), (u2.2.2.2, .inl (cI, 160, .inl (fun _ => 0))), (q3, .inr (4, [.int 0, .ref u4, .int 0, .int 0, .int 0, .int 0])), (u4, .inl (cI, 160, .inl (fun _ => 0))), (q5, .inr (0, [.ref u6.1, .ref u6.2.2.1, .ref u6.2.2.2.2, .int 0, .int 0, .int 0, .int 0, .int (-1), .int 0, .ref q1])), (u6.1, .inr (1, [.int 0, .ref u6.2.1])), (u6.2.1, .inl (cI, 56, .inl (fun _ => 0))), (u6.2.2.1, .inr (2, [.int 0, .ref u6.2.2.2.1])), (u6.2.2.2.1, .inl (cI, 8, .inl (fun _ => 0))), (u6.2.2.2.2, .inl (cI, 4, .inl ca_X0_45)), (q7, .inr (0, [.ref u8.1, .ref u8.2.2.1, .ref u8.2.2.2.2, .int 0, .int 0, .int 0, .int 0, .int (-1), .int 0, .ref q1])), (u8.1, .inr (1, [.int 0, .ref u8.2.1])), (u8.2.1, .inl (cI, 56, .inl (fun _ => 0))), (u8.2.2.1, .inr (2, [.int 0, .ref u8.2.2.2.1])), (u8.2.2.2.1, .inl (cI, 8, .inl (fun _ => 0))), (u8.2.2.2.2, .inl (cI, 4, .inl ca_X0_45))]) 0 op_X6_32 rfl rfl rfl (Nat.le_of_ble_eq_true rfl) rfl dX6_init_53 ?_
  refine qw_aload_n hC 0 rfl rfl dX6_init_56 ?_
  refine qw_new hC on_X6_23 (by decide) (by decide) dX6_init_57 (fun q9 => ?_)
  show QW X D 1 [(h0, .inr (6, [.ref q1, .ref q3, .ref q5, .ref q7, .null, .null, .null, .int 0])), (q1, .inr (5, [.int 1, .ref u2.1, .ref u2.2.1, .ref u2.2.2.1, .ref u2.2.2.2, .int 0])), (u2.1, .inl (cI, 960, .inl ca_X5_65)), (u2.2.1, .inl (cI, 18, .inl ca_X5_86)), (u2.2.2.1, .inl (cI, 6, .inl (fun _ => 0))), (u2.2.2.2, .inl (cI, 160, .inl (fun _ => 0))), (q3, .inr (4, [.int 0, .ref u4, .int 0, .int 0, .int 0, .int 0])), (u4, .inl (cI, 160, .inl (fun _ => 0))), (q5, .inr (0, [.ref u6.1, .ref u6.2.2.1, .ref u6.2.2.2.2, .int 0, .int 0, .int 0, .int 0, .int (-1), .int 0, .ref q1])), (u6.1, .inr (1, [.int 0, .ref u6.2.1])), (u6.2.1, .inl (cI, 56, .inl (fun _ => 0))), (u6.2.2.1, .inr (2, [.int 0, .ref u6.2.2.2.1])), (u6.2.2.2.1, .inl (cI, 8, .inl (fun _ => 0))), (u6.2.2.2.2, .inl (cI, 4, .inl ca_X0_45)), (q7, .inr (0, [.ref u8.1, .ref u8.2.2.1, .ref u8.2.2.2.2, .int 0, .int 0, .int 0, .int 0, .int (-1), .int 0, .ref q1])), (u8.1, .inr (1, [.int 0, .ref u8.2.1])), (u8.2.1, .inl (cI, 56, .inl (fun _ => 0))), (u8.2.2.1, .inr (2, [.int 0, .ref u8.2.2.2.1])), (u8.2.2.2.1, .inl (cI, 8, .inl (fun _ => 0))), (u8.2.2.2.2, .inl (cI, 4, .inl ca_X0_45)), (q9, .inr (0, [.null, .null, .null, .int 0, .int 0, .int 0, .int 0, .int 0, .int 0, .null]))] 20 1490 60 _ _
  refine qw_dup hC rfl dX6_init_60 ?_
  refine qw_aload_n hC 0 rfl rfl dX6_init_61 ?_
  refine qw_getr hC 0 kf_X6_10 rfl rfl dX6_init_62 ?_
  refine qw_call hC (n := 1) (as := [.ref q1]) (wr := [(h0, .inr (6, [.ref q1, .ref q3, .ref q5, .ref q7, .null, .null, .null, .int 0])), (q1, .inr (5, [.int 1, .ref u2.1, .ref u2.2.1, .ref u2.2.2.1, .ref u2.2.2.2, .int 0])), (u2.1, .inl (cI, 960, .inl ca_X5_65)), (u2.2.1, .inl (cI, 18, .inl ca_X5_86)), (u2.2.2.1, .inl (cI, 6, .inl (fun _ => 0))), (u2.2.2.2, .inl (cI, 160, .inl (fun _ => 0))), (q3, .inr (4, [.int 0, .ref u4, .int 0, .int 0, .int 0, .int 0])), (u4, .inl (cI, 160, .inl (fun _ => 0))), (q5, .inr (0, [.ref u6.1, .ref u6.2.2.1, .ref u6.2.2.2.2, .int 0, .int 0, .int 0, .int 0, .int (-1), .int 0, .ref q1])), (u6.1, .inr (1, [.int 0, .ref u6.2.1])), (u6.2.1, .inl (cI, 56, .inl (fun _ => 0))), (u6.2.2.1, .inr (2, [.int 0, .ref u6.2.2.2.1])), (u6.2.2.2.1, .inl (cI, 8, .inl (fun _ => 0))), (u6.2.2.2.2, .inl (cI, 4, .inl ca_X0_45)), (q7, .inr (0, [.ref u8.1, .ref u8.2.2.1, .ref u8.2.2.2.2, .int 0, .int 0, .int 0, .int 0, .int (-1), .int 0, .ref q1])), (u8.1, .inr (1, [.int 0, .ref u8.2.1])), (u8.2.1, .inl (cI, 56, .inl (fun _ => 0))), (u8.2.2.1, .inr (2, [.int 0, .ref u8.2.2.2.1])), (u8.2.2.2.1, .inl (cI, 8, .inl (fun _ => 0))), (u8.2.2.2.2, .inl (cI, 4, .inl ca_X0_45))]) (wc := [(q9, .inr (0, [.null, .null, .null, .int 0, .int 0, .int 0, .int 0, .int 0, .int 0, .null]))]) [20] [0, 1, 2, 3, 4, 5, 6, 7, 8, 9, 10, 11, 12, 13, 14, 15, 16, 17, 18, 19] (ci_X0 l D cI q9 q1) om_X6_25 kc_X0_init ki_X0_init kz_X0 rfl ⟨by decide +kernel, by decide +kernel, by decide +kernel⟩ rfl rfl rfl rfl rfl rfl (by decide) (by decide) (by decide) (by decide) (by decide) (Nat.le_of_ble_eq_true rfl) dX6_init_65 (fun u10 => ?_)
  show QW X D 1 [(h0, .inr (6, [.ref q1, .ref q3, .ref q5, .ref q7, .null, .null, .null, .int 0])), (q1, .inr (5, [.int 1, .ref u2.1, .ref u2.2.1, .ref u2.2.2.1, .ref u2.2.2.2, .int 0])), (u2.1, .inl (cI, 960, .inl ca_X5_65)), (u2.2.1, .inl (cI, 18, .inl ca_X5_86)), (u2.2.2.1, .inl (cI, 6, .inl (fun _ => 0))), (u2.2.2.2, .inl (cI, 160, .inl (fun _ => 0))), (q3, .inr (4, [.int 0, .ref u4, .int 0, .int 0, .int 0, .int 0])), (u4, .inl (cI, 160, .inl (fun _ => 0))), (q5, .inr (0, [.ref u6.1, .ref u6.2.2.1, .ref u6.2.2.2.2, .int 0, .int 0, .int 0, .int 0, .int (-1), .int 0, .ref q1])), (u6.1, .inr (1, [.int 0, .ref u6.2.1])), (u6.2.1, .inl (cI, 56, .inl (fun _ => 0))), (u6.2.2.1, .inr (2, [.int 0, .ref u6.2.2.2.1])), (u6.2.2.2.1, .inl (cI, 8, .inl (fun _ => 0))), (u6.2.2.2.2, .inl (cI, 4, .inl ca_X0_45)), (q7, .inr (0, [.ref u8.1, .ref u8.2.2.1, .ref u8.2.2.2.2, .int 0, .int 0, .int 0, .int 0, .int (-1), .int 0, .ref q1])), (u8.1, .inr (1, [.int 0, .ref u8.2.1])), (u8.2.1, .inl (cI, 56, .inl (fun _ => 0))), (u8.2.2.1, .inr (2, [.int 0, .ref u8.2.2.2.1])), (u8.2.2.2.1, .inl (cI, 8, .inl (fun _ => 0))), (u8.2.2.2.2, .inl (cI, 4, .inl ca_X0_45)), (q9, .inr (0, [.ref u10.1, .ref u10.2.2.1, .ref u10.2.2.2.2, .int 0, .int 0, .int 0, .int 0, .int (-1), .int 0, .ref q1])), (u10.1, .inr (1, [.int 0, .ref u10.2.1])), (u10.2.1, .inl (cI, 56, .inl (fun _ => 0))), (u10.2.2.1, .inr (2, [.int 0, .ref u10.2.2.2.1])), (u10.2.2.2.1, .inl (cI, 8, .inl (fun _ => 0))), (u10.2.2.2.2, .inl (cI, 4, .inl ca_X0_45))] 25 1562 68 _ _
  refine qw_putF hC hI (ws' := [(h0, .inr (6, [.ref q1, .ref q3, .ref q5, .ref q7, .ref q9, .null, .null, .int 0])), (q1, .inr (5, [.int 1, .ref u2.1, .ref u2.2.1, .ref u2.2.2.1, .ref u2.2.2.2, .int 0])), (u2.1, .inl (cI, 960, .inl ca_X5_65)), (u2.2.1, .inl (cI, 18, .inl ca_X5_86)), (u2.2.2.1, .inl (cI, 6, .inl (fun _ => 0))), (u2.2.2.2, .inl (cI, 160, .inl (fun _ => 0))), (q3, .inr (4, [.int 0, .ref u4, .int 0, .int 0, .int 0, .int 0])), (u4, .inl (cI, 160, .inl (fun _ => 0))), (q5, .inr (0, [.ref u6.1, .ref u6.2.2.1, .ref u6.2.2.2.2, .int 0, .int 0, .int 0, .int 0, .int (-1), .int 0, .ref q1])), (u6.1, .inr (1, [.int 0, .ref u6.2.1])), (u6.2.1, .inl (cI, 56, .inl (fun _ => 0))), (u6.2.2.1, .inr (2, [.int 0, .ref u6.2.2.2.1])), (u6.2.2.2.1, .inl (cI, 8, .inl (fun _ => 0))), (u6.2.2.2.2, .inl (cI, 4, .inl ca_X0_45)), (q7, .inr (0, [.ref u8.1, .ref u8.2.2.1, .ref u8.2.2.2.2, .int 0, .int 0, .int 0, .int 0, .int (-1), .int 0, .ref q1])), (u8.1, .inr (1, [.int 0, .ref u8.2.1])), (u8.2.1, .inl (cI, 56, .inl (fun _ => 0))), (u8.2.2.1, .inr (2, [.int 0, .ref u8.2.2.2.1])), (u8.2.2.2.1, .inl (cI, 8, .inl (fun _ => 0))), (u8.2.2.2.2, .inl (cI, 4, .inl ca_X0_45)), (q9, .inr (0, [.ref u10.1, .ref u10.2.2.1, .ref u10.2.2.2.2, .int 0, .int 0, .int 0, .int 0, .int (-1), .int 0, .ref q1])), (u10.1, .inr (1, [.int 0, .ref u10.2.1])), (u10.2.1, .inl (cI, 56, .inl (fun _ => 0))), (u10.2.2.1, .inr (2, [.int 0, .ref u10.2.2.2.1])), (u10.2.2.2.1, .inl (cI, 8, .inl (fun _ => 0))), (u10.2.2.2.2, .inl (cI, 4, .inl ca_X0_45))]) 0 op_X6_35 rfl rfl rfl (Nat.le_of_ble_eq_true rfl) rfl dX6_init_68 ?_
  refine qw_aload_n hC 0 rfl rfl dX6_init_71 ?_
  refine qw_new hC on_X6_23 (by decide) (by decide) dX6_init_72 (fun q11 => ?_)
  show QW X D 1 [(h0, .inr (6, [.ref q1, .ref q3, .ref q5, .ref q7, .ref q9, .null, .null, .int 0])), (q1, .inr (5, [.int 1, .ref u2.1, .ref u2.2.1, .ref u2.2.2.1, .ref u2.2.2.2, .int 0])), (u2.1, .inl (cI, 960, .inl ca_X5_65)), (u2.2.1, .inl (cI, 18, .inl ca_X5_86)), (u2.2.2.1, .inl (cI, 6, .inl (fun _ => 0))), (u2.2.2.2, .inl (cI, 160, .inl (fun _ => 0))), (q3, .inr (4, [.int 0, .ref u4, .int 0, .int 0, .int 0, .int 0])), (u4, .inl (cI, 160, .inl (fun _ => 0))), (q5, .inr (0, [.ref u6.1, .ref u6.2.2.1, .ref u6.2.2.2.2, .int 0, .int 0, .int 0, .int 0, .int (-1), .int 0, .ref q1])), (u6.1, .inr (1, [.int 0, .ref u6.2.1])), (u6.2.1, .inl (cI, 56, .inl (fun _ => 0))), (u6.2.2.1, .inr (2, [.int 0, .ref u6.2.2.2.1])), (u6.2.2.2.1, .inl (cI, 8, .inl (fun _ => 0))), (u6.2.2.2.2, .inl (cI, 4, .inl ca_X0_45)), (q7, .inr (0, [.ref u8.1, .ref u8.2.2.1, .ref u8.2.2.2.2, .int 0, .int 0, .int 0, .int 0, .int (-1), .int 0, .ref q1])), (u8.1, .inr (1, [.int 0, .ref u8.2.1])), (u8.2.1, .inl (cI, 56, .inl (fun _ => 0))), (u8.2.2.1, .inr (2, [.int 0, .ref u8.2.2.2.1])), (u8.2.2.2.1, .inl (cI, 8, .inl (fun _ => 0))), (u8.2.2.2.2, .inl (cI, 4, .inl ca_X0_45)), (q9, .inr (0, [.ref u10.1, .ref u10.2.2.1, .ref u10.2.2.2.2, .int 0, .int 0, .int 0, .int 0, .int (-1), .int 0, .ref q1])), (u10.1, .inr (1, [.int 0, .ref u10.2.1])), (u10.2.1, .inl (cI, 56, .inl (fun _ => 0))), (u10.2.2.1, .inr (2, [.int 0, .ref u10.2.2.2.1])), (u10.2.2.2.1, .inl (cI, 8, .inl (fun _ => 0))), (u10.2.2.2.2, .inl (cI, 4, .inl ca_X0_45)), (q11, .inr (0, [.null, .null, .null, .int 0, .int 0, .int 0, .int 0, .int 0, .int 0, .null]))] 26 1572 75 _ _
  refine qw_dup hC rfl dX6_init_75 ?_
  refine qw_aload_n hC 0 rfl rfl dX6_init_76 ?_
  refine qw_getr hC 0 kf_X6_10 rfl rfl dX6_init_77 ?_
  refine qw_call hC (n := 1) (as := [.ref q1]) (wr := [(h0, .inr (6, [.ref q1, .ref q3, .ref q5, .ref q7, .ref q9, .null, .null, .int 0])), (q1, .inr (5, [.int 1, .ref u2.1, .ref u2.2.1, .ref u2.2.2.1, .ref u2.2.2.2, .int 0])), (u2.1, .inl (cI, 960, .inl ca_X5_65)), (u2.2.1, .inl (cI, 18, .inl ca_X5_86)), (u2.2.2.1, .inl (cI, 6, .inl (fun _ => 0))), (u2.2.2.2, .inl (cI, 160, .inl (fun _ => 0))), (q3, .inr (4, [.int 0, .ref u4, .int 0, .int 0, .int 0, .int 0])), (u4, .inl (cI, 160, .inl (fun _ => 0))), (q5, .inr (0, [.ref u6.1, .ref u6.2.2.1, .ref u6.2.2.2.2, .int 0, .int 0, .int 0, .int 0, .int (-1), .int 0, .ref q1])), (u6.1, .inr (1, [.int 0, .ref u6.2.1])), (u6.2.1, .inl (cI, 56, .inl (fun _ => 0))), (u6.2.2.1, .inr (2, [.int 0, .ref u6.2.2.2.1])), (u6.2.2.2.1, .inl (cI, 8, .inl (fun _ => 0))), (u6.2.2.2.2, .inl (cI, 4, .inl ca_X0_45)), (q7, .inr (0, [.ref u8.1, .ref u8.2.2.1, .ref u8.2.2.2.2, .int 0, .int 0, .int 0, .int 0, .int (-1), .int 0, .ref q1])), (u8.1, .inr (1, [.int 0, .ref u8.2.1])), (u8.2.1, .inl (cI, 56, .inl (fun _ => 0))), (u8.2.2.1, .inr (2, [.int 0, .ref u8.2.2.2.1])), (u8.2.2.2.1, .inl (cI, 8, .inl (fun _ => 0))), (u8.2.2.2.2, .inl (cI, 4, .inl ca_X0_45)), (q9, .inr (0, [.ref u10.1, .ref u10.2.2.1, .ref u10.2.2.2.2, .int 0, .int 0, .int 0, .int 0, .int (-1), .int 0, .ref q1])), (u10.1, .inr (1, [.int 0, .ref u10.2.1])), (u10.2.1, .inl (cI, 56, .inl (fun _ => 0))), (u10.2.2.1, .inr (2, [.int 0, .ref u10.2.2.2.1])), (u10.2.2.2.1, .inl (cI, 8, .inl (fun _ => 0))), (u10.2.2.2.2, .inl (cI, 4, .inl ca_X0_45))]) (wc := [(q11, .inr (0, [.null, .null, .null, .int 0, .int 0, .int 0, .int 0, .int 0, .int 0, .null]))]) [26] [0, 1, 2, 3, 4, 5, 6, 7, 8, 9, 10, 11, 12, 13, 14, 15, 16, 17, 18, 19, 20, 21, 22, 23, 24, 25] (ci_X0 l D cI q11 q1) om_X6_25 kc_X0_init ki_X0_init kz_X0 rfl ⟨by decide +kernel, by decide +kernel, by decide +kernel⟩ rfl rfl rfl rfl rfl rfl (by decide) (by decide) (by decide) (by decide) (by decide) (Nat.le_of_ble_eq_true rfl) dX6_init_80 (fun u12 => ?_)
  show QW X D 1 [(h0, .inr (6, [.ref q1, .ref q3, .ref q5, .ref q7, .ref q9, .null, .null, .int 0])), (q1, .inr (5, [.int 1, .ref u2.1, .ref u2.2.1, .ref u2.2.2.1, .ref u2.2.2.2, .int 0])), (u2.1, .inl (cI, 960, .inl ca_X5_65)), (u2.2.1, .inl (cI, 18, .inl ca_X5_86)), (u2.2.2.1, .inl (cI, 6, .inl (fun _ => 0))), (u2.2.2.2, .inl (cI, 160, .inl (fun _ => 0))), (q3, .inr (4, [.int 0, .ref u4, .int 0, .int 0, .int 0, .int 0])), (u4, .inl (cI, 160, .inl (fun _ => 0))), (q5, .inr (0, [.ref u6.1, .ref u6.2.2.1, .ref u6.2.2.2.2, .int 0, .int 0, .int 0, .int 0, .int (-1), .int 0, .ref q1])), (u6.1, .inr (1, [.int 0, .ref u6.2.1])), (u6.2.1, .inl (cI, 56, .inl (fun _ => 0))), (u6.2.2.1, .inr (2, [.int 0, .ref u6.2.2.2.1])), (u6.2.2.2.1, .inl (cI, 8, .inl (fun _ => 0))), (u6.2.2.2.2, .inl (cI, 4, .inl ca_X0_45)), (q7, .inr (0, [.ref u8.1, .ref u8.2.2.1, .ref u8.2.2.2.2, .int 0, .int 0, .int 0, .int 0, .int (-1), .int 0, .ref q1])), (u8.1, .inr (1, [.int 0, .ref u8.2.1])), (u8.2.1, .inl (cI, 56, .inl (fun _ => 0))), (u8.2.2.1, .inr (2, [.int 0, .ref u8.2.2.2.1])), (u8.2.2.2.1, .inl (cI, 8, .inl (fun _ => 0))), (u8.2.2.2.2, .inl (cI, 4, .inl ca_X0_45)), (q9, .inr (0, [.ref u10.1, .ref u10.2.2.1, .ref u10.2.2.2.2, .int 0, .int 0, .int 0, .int 0, .int (-1), .int 0, .ref q1])), (u10.1, .inr (1, [.int 0, .ref u10.2.1])), (u10.2.1, .inl (cI, 56, .inl (fun _ => 0))), (u10.2.2.1, .inr (2, [.int 0, .ref u10.2.2.2.1])), (u10.2.2.2.1, .inl (cI, 8, .inl (fun _ => 0))), (u10.2.2.2.2, .inl (cI, 4, .inl ca_X0_45)), (q11, .inr (0, [.ref u12.1, .ref u12.2.2.1, .ref u12.2.2.2.2, .int 0, .int 0, .int 0, .int 0, .int (-1), .int 0, .ref q1])), (u12.1, .inr (1, [.int 0, .ref u12.2.1])), (u12.2.1, .inl (cI, 56, .inl (fun _ => 0))), (u12.2.2.1, .inr (2, [.int 0, .ref u12.2.2.2.1])), (u12.2.2.2.1, .inl (cI, 8, .inl (fun _ => 0))), (u12.2.2.2.2, .inl (cI, 4, .inl ca_X0_45))] 31 1644 83 _ _
  refine qw_putF hC hI (ws' := [(h0, .inr (6, [.ref q1, .ref q3, .ref q5, .ref q7, .ref q9, .ref q11, .null, .int 0])), (q1, .inr (5, [.int 1, .ref u2.1, .ref u2.2.1, .ref u2.2.2.1, .ref u2.2.2.2, .int 0])), (u2.1, .inl (cI, 960, .inl ca_X5_65)), (u2.2.1, .inl (cI, 18, .inl ca_X5_86)), (u2.2.2.1, .inl (cI, 6, .inl (fun _ => 0))), (u2.2.2.2, .inl (cI, 160, .inl (fun _ => 0))), (q3, .inr (4, [.int 0, .ref u4, .int 0, .int 0, .int 0, .int 0])), (u4, .inl (cI, 160, .inl (fun _ => 0))), (q5, .inr (0, [.ref u6.1, .ref u6.2.2.1, .ref u6.2.2.2.2, .int 0, .int 0, .int 0, .int 0, .int (-1), .int 0, .ref q1])), (u6.1, .inr (1, [.int 0, .ref u6.2.1])), (u6.2.1, .inl (cI, 56, .inl (fun _ => 0))), (u6.2.2.1, .inr (2, [.int 0, .ref u6.2.2.2.1])), (u6.2.2.2.1, .inl (cI, 8, .inl (fun _ => 0))), (u6.2.2.2.2, .inl (cI, 4, .inl ca_X0_45)), (q7, .inr (0, [.ref u8.1, .ref u8.2.2.1, .ref u8.2.2.2.2, .int 0, .int 0, .int 0, .int 0, .int (-1), .int 0, .ref q1])), (u8.1, .inr (1, [.int 0, .ref u8.2.1])), (u8.2.1, .inl (cI, 56, .inl (fun _ => 0))), (u8.2.2.1, .inr (2, [.int 0, .ref u8.2.2.2.1])), (u8.2.2.2.1, .inl (cI, 8, .inl (fun _ => 0))), (u8.2.2.2.2, .inl (cI, 4, .inl ca_X0_45)), (q9, .inr (0, [.ref u10.1, .ref u10.2.2.1, .ref u10.2.2.2.2, .int 0, .int 0, .int 0, .int 0, .int (-1), .int 0, .ref q1])), (u10.1, .inr (1, [.int 0, .ref u10.2.1])), (u10.2.1, .inl (cI, 56, .inl (fun _ => 0))), (u10.2.2.1, .inr (2, [.int 0, .ref u10.2.2.2.1])), (u10.2.2.2.1, .inl (cI, 8, .inl (fun _ => 0))), (u10.2.2.2.2, .inl (cI, 4, .inl ca_X0_45)), (q11, .inr (0, [.ref u12.1, .ref u12.2.2.1, .ref u12.2.2.2.2, .int 0, .int 0, .int 0, .int 0, .int (-1), .int 0, .ref q1])), (u12.1, .inr (1, [.int 0, .ref u12.2.1])), (u12.2.1, .inl (cI, 56, .inl (fun _ => 0))), (u12.2.2.1, .inr (2, [.int 0, .ref u12.2.2.2.1])), (u12.2.2.2.1, .inl (cI, 8, .inl (fun _ => 0))), (u12.2.2.2.2, .inl (cI, 4, .inl ca_X0_45))]) 0 op_X6_38 rfl rfl rfl (Nat.le_of_ble_eq_true rfl) rfl dX6_init_83 ?_
  refine qw_aload_n hC 0 rfl rfl dX6_init_86 ?_
  refine qw_new hC on_X6_41 (by decide) (by decide) dX6_init_87 (fun q13 => ?_)
  show QW X D 1 [(h0, .inr (6, [.ref q1, .ref q3, .ref q5, .ref q7, .ref q9, .ref q11, .null, .int 0])), (q1, .inr (5, [.int 1, .ref u2.1, .ref u2.2.1, .ref u2.2.2.1, .ref u2.2.2.2, .int 0])), (u2.1, .inl (cI, 960, .inl ca_X5_65)), (u2.2.1, .inl (cI, 18, .inl ca_X5_86)), (u2.2.2.1, .inl (cI, 6, .inl (fun _ => 0))), (u2.2.2.2, .inl (cI, 160, .inl (fun _ => 0))), (q3, .inr (4, [.int 0, .ref u4, .int 0, .int 0, .int 0, .int 0])), (u4, .inl (cI, 160, .inl (fun _ => 0))), (q5, .inr (0, [.ref u6.1, .ref u6.2.2.1, .ref u6.2.2.2.2, .int 0, .int 0, .int 0, .int 0, .int (-1), .int 0, .ref q1])), (u6.1, .inr (1, [.int 0, .ref u6.2.1])), (u6.2.1, .inl (cI, 56, .inl (fun _ => 0))), (u6.2.2.1, .inr (2, [.int 0, .ref u6.2.2.2.1])), (u6.2.2.2.1, .inl (cI, 8, .inl (fun _ => 0))), (u6.2.2.2.2, .inl (cI, 4, .inl ca_X0_45)), (q7, .inr (0, [.ref u8.1, .ref u8.2.2.1, .ref u8.2.2.2.2, .int 0, .int 0, .int 0, .int 0, .int (-1), .int 0, .ref q1])), (u8.1, .inr (1, [.int 0, .ref u8.2.1])), (u8.2.1, .inl (cI, 56, .inl (fun _ => 0))), (u8.2.2.1, .inr (2, [.int 0, .ref u8.2.2.2.1])), (u8.2.2.2.1, .inl (cI, 8, .inl (fun _ => 0))), (u8.2.2.2.2, .inl (cI, 4, .inl ca_X0_45)), (q9, .inr (0, [.ref u10.1, .ref u10.2.2.1, .ref u10.2.2.2.2, .int 0, .int 0, .int 0, .int 0, .int (-1), .int 0, .ref q1])), (u10.1, .inr (1, [.int 0, .ref u10.2.1])), (u10.2.1, .inl (cI, 56, .inl (fun _ => 0))), (u10.2.2.1, .inr (2, [.int 0, .ref u10.2.2.2.1])), (u10.2.2.2.1, .inl (cI, 8, .inl (fun _ => 0))), (u10.2.2.2.2, .inl (cI, 4, .inl ca_X0_45)), (q11, .inr (0, [.ref u12.1, .ref u12.2.2.1, .ref u12.2.2.2.2, .int 0, .int 0, .int 0, .int 0, .int (-1), .int 0, .ref q1])), (u12.1, .inr (1, [.int 0, .ref u12.2.1])), (u12.2.1, .inl (cI, 56, .inl (fun _ => 0))), (u12.2.2.1, .inr (2, [.int 0, .ref u12.2.2.2.1])), (u12.2.2.2.1, .inl (cI, 8, .inl (fun _ => 0))), (u12.2.2.2.2, .inl (cI, 4, .inl ca_X0_45)), (q13, .inr (3, [.null, .null, .null]))] 32 1647 90 _ _
  refine qw_dup hC rfl dX6_init_90 ?_
  refine qw_callN hC (n := 0) (as := []) (wr := [(h0, .inr (6, [.ref q1, .ref q3, .ref q5, .ref q7, .ref q9, .ref q11, .null, .int 0])), (q1, .inr (5, [.int 1, .ref u2.1, .ref u2.2.1, .ref u2.2.2.1, .ref u2.2.2.2, .int 0])), (u2.1, .inl (cI, 960, .inl ca_X5_65)), (u2.2.1, .inl (cI, 18, .inl ca_X5_86)), (u2.2.2.1, .inl (cI, 6, .inl (fun _ => 0))), (u2.2.2.2, .inl (cI, 160, .inl (fun _ => 0))), (q3, .inr (4, [.int 0, .ref u4, .int 0, .int 0, .int 0, .int 0])), (u4, .inl (cI, 160, .inl (fun _ => 0))), (q5, .inr (0, [.ref u6.1, .ref u6.2.2.1, .ref u6.2.2.2.2, .int 0, .int 0, .int 0, .int 0, .int (-1), .int 0, .ref q1])), (u6.1, .inr (1, [.int 0, .ref u6.2.1])), (u6.2.1, .inl (cI, 56, .inl (fun _ => 0))), (u6.2.2.1, .inr (2, [.int 0, .ref u6.2.2.2.1])), (u6.2.2.2.1, .inl (cI, 8, .inl (fun _ => 0))), (u6.2.2.2.2, .inl (cI, 4, .inl ca_X0_45)), (q7, .inr (0, [.ref u8.1, .ref u8.2.2.1, .ref u8.2.2.2.2, .int 0, .int 0, .int 0, .int 0, .int (-1), .int 0, .ref q1])), (u8.1, .inr (1, [.int 0, .ref u8.2.1])), (u8.2.1, .inl (cI, 56, .inl (fun _ => 0))), (u8.2.2.1, .inr (2, [.int 0, .ref u8.2.2.2.1])), (u8.2.2.2.1, .inl (cI, 8, .inl (fun _ => 0))), (u8.2.2.2.2, .inl (cI, 4, .inl ca_X0_45)), (q9, .inr (0, [.ref u10.1, .ref u10.2.2.1, .ref u10.2.2.2.2, .int 0, .int 0, .int 0, .int 0, .int (-1), .int 0, .ref q1])), (u10.1, .inr (1, [.int 0, .ref u10.2.1])), (u10.2.1, .inl (cI, 56, .inl (fun _ => 0))), (u10.2.2.1, .inr (2, [.int 0, .ref u10.2.2.2.1])), (u10.2.2.2.1, .inl (cI, 8, .inl (fun _ => 0))), (u10.2.2.2.2, .inl (cI, 4, .inl ca_X0_45)), (q11, .inr (0, [.ref u12.1, .ref u12.2.2.1, .ref u12.2.2.2.2, .int 0, .int 0, .int 0, .int 0, .int (-1), .int 0, .ref q1])), (u12.1, .inr (1, [.int 0, .ref u12.2.1])), (u12.2.1, .inl (cI, 56, .inl (fun _ => 0))), (u12.2.2.1, .inr (2, [.int 0, .ref u12.2.2.2.1])), (u12.2.2.2.1, .inl (cI, 8, .inl (fun _ => 0))), (u12.2.2.2.2, .inl (cI, 4, .inl ca_X0_45))]) (wc := [(q13, .inr (3, [.null, .null, .null]))]) [32] [0, 1, 2, 3, 4, 5, 6, 7, 8, 9, 10, 11, 12, 13, 14, 15, 16, 17, 18, 19, 20, 21, 22, 23, 24, 25, 26, 27, 28, 29, 30, 31] (ci_X3 l D cI q13) (fun _ h => h.2.1) kc_X3_init ki_X3_init kz_X3 rfl ⟨by decide +kernel, by decide +kernel, by decide +kernel⟩ rfl rfl rfl rfl rfl rfl (by decide) (by decide) (by decide) (by decide) (by decide) (Nat.le_of_ble_eq_true rfl) dX6_init_91 (fun u14 => ?_)
  show QW X D 1 [(h0, .inr (6, [.ref q1, .ref q3, .ref q5, .ref q7, .ref q9, .ref q11, .null, .int 0])), (q1, .inr (5, [.int 1, .ref u2.1, .ref u2.2.1, .ref u2.2.2.1, .ref u2.2.2.2, .int 0])), (u2.1, .inl (cI, 960, .inl ca_X5_65)), (u2.2.1, .inl (cI, 18, .inl ca_X5_86)), (u2.2.2.1, .inl (cI, 6, .inl (fun _ => 0))), (u2.2.2.2, .inl (cI, 160, .inl (fun _ => 0))), (q3, .inr (4, [.int 0, .ref u4, .int 0, .int 0, .int 0, .int 0])), (u4, .inl (cI, 160, .inl (fun _ => 0))), (q5, .inr (0, [.ref u6.1, .ref u6.2.2.1, .ref u6.2.2.2.2, .int 0, .int 0, .int 0, .int 0, .int (-1), .int 0, .ref q1])), (u6.1, .inr (1, [.int 0, .ref u6.2.1])), (u6.2.1, .inl (cI, 56, .inl (fun _ => 0))), (u6.2.2.1, .inr (2, [.int 0, .ref u6.2.2.2.1])), (u6.2.2.2.1, .inl (cI, 8, .inl (fun _ => 0))), (u6.2.2.2.2, .inl (cI, 4, .inl ca_X0_45)), (q7, .inr (0, [.ref u8.1, .ref u8.2.2.1, .ref u8.2.2.2.2, .int 0, .int 0, .int 0, .int 0, .int (-1), .int 0, .ref q1])), (u8.1, .inr (1, [.int 0, .ref u8.2.1])), (u8.2.1, .inl (cI, 56, .inl (fun _ => 0))), (u8.2.2.1, .inr (2, [.int 0, .ref u8.2.2.2.1])), (u8.2.2.2.1, .inl (cI, 8, .inl (fun _ => 0))), (u8.2.2.2.2, .inl (cI, 4, .inl ca_X0_45)), (q9, .inr (0, [.ref u10.1, .ref u10.2.2.1, .ref u10.2.2.2.2, .int 0, .int 0, .int 0, .int 0, .int (-1), .int 0, .ref q1])), (u10.1, .inr (1, [.int 0, .ref u10.2.1])), (u10.2.1, .inl (cI, 56, .inl (fun _ => 0))), (u10.2.2.1, .inr (2, [.int 0, .ref u10.2.2.2.1])), (u10.2.2.2.1, .inl (cI, 8, .inl (fun _ => 0))), (u10.2.2.2.2, .inl (cI, 4, .inl ca_X0_45)), (q11, .inr (0, [.ref u12.1, .ref u12.2.2.1, .ref u12.2.2.2.2, .int 0, .int 0, .int 0, .int 0, .int (-1), .int 0, .ref q1])), (u12.1, .inr (1, [.int 0, .ref u12.2.1])), (u12.2.1, .inl (cI, 56, .inl (fun _ => 0))), (u12.2.2.1, .inr (2, [.int 0, .ref u12.2.2.2.1])), (u12.2.2.2.1, .inl (cI, 8, .inl (fun _ => 0))), (u12.2.2.2.2, .inl (cI, 4, .inl ca_X0_45)), (q13, .inr (3, [.ref u14.1, .ref u14.2.1, .ref u14.2.2])), (u14.1, .inl (cI, 4, .inl ca_X3_23)), (u14.2.1, .inl (cI, 4, .inl (fun _ => 0))), (u14.2.2, .inl (cI, 160, .inl (fun _ => 0)))] 35 1815 94 _ _
  refine qw_putF hC hI (ws' := [(h0, .inr (6, [.ref q1, .ref q3, .ref q5, .ref q7, .ref q9, .ref q11, .ref q13, .int 0])), (q1, .inr (5, [.int 1, .ref u2.1, .ref u2.2.1, .ref u2.2.2.1, .ref u2.2.2.2, .int 0])), (u2.1, .inl (cI, 960, .inl ca_X5_65)), (u2.2.1, .inl (cI, 18, .inl ca_X5_86)), (u2.2.2.1, .inl (cI, 6, .inl (fun _ => 0))), (u2.2.2.2, .inl (cI, 160, .inl (fun _ => 0))), (q3, .inr (4, [.int 0, .ref u4, .int 0, .int 0, .int 0, .int 0])), (u4, .inl (cI, 160, .inl (fun _ => 0))), (q5, .inr (0, [.ref u6.1, .ref u6.2.2.1, .ref u6.2.2.2.2, .int 0, .int 0, .int 0, .int 0, .int (-1), .int 0, .ref q1])), (u6.1, .inr (1, [.int 0, .ref u6.2.1])), (u6.2.1, .inl (cI, 56, .inl (fun _ => 0))), (u6.2.2.1, .inr (2, [.int 0, .ref u6.2.2.2.1])), (u6.2.2.2.1, .inl (cI, 8, .inl (fun _ => 0))), (u6.2.2.2.2, .inl (cI, 4, .inl ca_X0_45)), (q7, .inr (0, [.ref u8.1, .ref u8.2.2.1, .ref u8.2.2.2.2, .int 0, .int 0, .int 0, .int 0, .int (-1), .int 0, .ref q1])), (u8.1, .inr (1, [.int 0, .ref u8.2.1])), (u8.2.1, .inl (cI, 56, .inl (fun _ => 0))), (u8.2.2.1, .inr (2, [.int 0, .ref u8.2.2.2.1])), (u8.2.2.2.1, .inl (cI, 8, .inl (fun _ => 0))), (u8.2.2.2.2, .inl (cI, 4, .inl ca_X0_45)), (q9, .inr (0, [.ref u10.1, .ref u10.2.2.1, .ref u10.2.2.2.2, .int 0, .int 0, .int 0, .int 0, .int (-1), .int 0, .ref q1])), (u10.1, .inr (1, [.int 0, .ref u10.2.1])), (u10.2.1, .inl (cI, 56, .inl (fun _ => 0))), (u10.2.2.1, .inr (2, [.int 0, .ref u10.2.2.2.1])), (u10.2.2.2.1, .inl (cI, 8, .inl (fun _ => 0))), (u10.2.2.2.2, .inl (cI, 4, .inl ca_X0_45)), (q11, .inr (0, [.ref u12.1, .ref u12.2.2.1, .ref u12.2.2.2.2, .int 0, .int 0, .int 0, .int 0, .int (-1), .int 0, .ref q1])), (u12.1, .inr (1, [.int 0, .ref u12.2.1])), (u12.2.1, .inl (cI, 56, .inl (fun _ => 0))), (u12.2.2.1, .inr (2, [.int 0, .ref u12.2.2.2.1])), (u12.2.2.2.1, .inl (cI, 8, .inl (fun _ => 0))), (u12.2.2.2.2, .inl (cI, 4, .inl ca_X0_45)), (q13, .inr (3, [.ref u14.1, .ref u14.2.1, .ref u14.2.2])), (u14.1, .inl (cI, 4, .inl ca_X3_23)), (u14.2.1, .inl (cI, 4, .inl (fun _ => 0))), (u14.2.2, .inl (cI, 160, .inl (fun _ => 0)))]) 0 op_X6_44 rfl rfl rfl (Nat.le_of_ble_eq_true rfl) rfl dX6_init_94 ?_
  refine qw_aload_n hC 0 rfl rfl dX6_init_97 ?_
  refine qw_iconst hC dX6_init_98 kq_iconst_0 ?_
  refine qw_put hC (ws' := [(h0, .inr (6, [.ref q1, .ref q3, .ref q5, .ref q7, .ref q9, .ref q11, .ref q13, .int 0])), (q1, .inr (5, [.int 1, .ref u2.1, .ref u2.2.1, .ref u2.2.2.1, .ref u2.2.2.2, .int 0])), (u2.1, .inl (cI, 960, .inl ca_X5_65)), (u2.2.1, .inl (cI, 18, .inl ca_X5_86)), (u2.2.2.1, .inl (cI, 6, .inl (fun _ => 0))), (u2.2.2.2, .inl (cI, 160, .inl (fun _ => 0))), (q3, .inr (4, [.int 0, .ref u4, .int 0, .int 0, .int 0, .int 0])), (u4, .inl (cI, 160, .inl (fun _ => 0))), (q5, .inr (0, [.ref u6.1, .ref u6.2.2.1, .ref u6.2.2.2.2, .int 0, .int 0, .int 0, .int 0, .int (-1), .int 0, .ref q1])), (u6.1, .inr (1, [.int 0, .ref u6.2.1])), (u6.2.1, .inl (cI, 56, .inl (fun _ => 0))), (u6.2.2.1, .inr (2, [.int 0, .ref u6.2.2.2.1])), (u6.2.2.2.1, .inl (cI, 8, .inl (fun _ => 0))), (u6.2.2.2.2, .inl (cI, 4, .inl ca_X0_45)), (q7, .inr (0, [.ref u8.1, .ref u8.2.2.1, .ref u8.2.2.2.2, .int 0, .int 0, .int 0, .int 0, .int (-1), .int 0, .ref q1])), (u8.1, .inr (1, [.int 0, .ref u8.2.1])), (u8.2.1, .inl (cI, 56, .inl (fun _ => 0))), (u8.2.2.1, .inr (2, [.int 0, .ref u8.2.2.2.1])), (u8.2.2.2.1, .inl (cI, 8, .inl (fun _ => 0))), (u8.2.2.2.2, .inl (cI, 4, .inl ca_X0_45)), (q9, .inr (0, [.ref u10.1, .ref u10.2.2.1, .ref u10.2.2.2.2, .int 0, .int 0, .int 0, .int 0, .int (-1), .int 0, .ref q1])), (u10.1, .inr (1, [.int 0, .ref u10.2.1])), (u10.2.1, .inl (cI, 56, .inl (fun _ => 0))), (u10.2.2.1, .inr (2, [.int 0, .ref u10.2.2.2.1])), (u10.2.2.2.1, .inl (cI, 8, .inl (fun _ => 0))), (u10.2.2.2.2, .inl (cI, 4, .inl ca_X0_45)), (q11, .inr (0, [.ref u12.1, .ref u12.2.2.1, .ref u12.2.2.2.2, .int 0, .int 0, .int 0, .int 0, .int (-1), .int 0, .ref q1])), (u12.1, .inr (1, [.int 0, .ref u12.2.1])), (u12.2.1, .inl (cI, 56, .inl (fun _ => 0))), (u12.2.2.1, .inr (2, [.int 0, .ref u12.2.2.2.1])), (u12.2.2.2.1, .inl (cI, 8, .inl (fun _ => 0))), (u12.2.2.2.2, .inl (cI, 4, .inl ca_X0_45)), (q13, .inr (3, [.ref u14.1, .ref u14.2.1, .ref u14.2.2])), (u14.1, .inl (cI, 4, .inl ca_X3_23)), (u14.2.1, .inl (cI, 4, .inl (fun _ => 0))), (u14.2.2, .inl (cI, 160, .inl (fun _ => 0)))]) 0 op_X6_48 rfl rfl rfl (Nat.le_of_ble_eq_true rfl) rfl dX6_init_99 ?_
  exact qw_vret hC hQ (q1, u2.1, u2.2.1, u2.2.2.1, u2.2.2.2, q3, u4, q5, u6.1, u6.2.1, u6.2.2.1, u6.2.2.2.1, u6.2.2.2.2, q7, u8.1, u8.2.1, u8.2.2.1, u8.2.2.2.1, u8.2.2.2.2, q9, u10.1, u10.2.1, u10.2.2.1, u10.2.2.2.1, u10.2.2.2.2, q11, u12.1, u12.2.1, u12.2.2.1, u12.2.2.2.1, u12.2.2.2.2, q13, u14.1, u14.2.1, u14.2.2) rfl rfl rfl dX6_init_102
