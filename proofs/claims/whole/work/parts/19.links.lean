theorem lk_100_3 : am_lk 100 3 = some (0, 0) := by decide +kernel
theorem fl_100_11 : am_fl 100 11 = some (0, 0, 2) := by decide +kernel
theorem nt_100_9 : am_lu am_nT 100 9 = some 3 := by decide +kernel
theorem lk_100_17 : am_lk 100 17 = some (34, 1) := by decide +kernel
theorem fl_0_18 : am_fl 0 18 = some (0, 2, 0) := by decide +kernel
theorem fl_0_11 : am_fl 0 11 = some (0, 0, 2) := by decide +kernel
theorem fl_0_22 : am_fl 0 22 = some (0, 1, 0) := by decide +kernel
theorem lk_0_25 : am_lk 0 25 = some (38, 0) := by decide +kernel
theorem lk_0_29 : am_lk 0 29 = some (3, 0) := by decide +kernel
theorem lk_101_3 : am_lk 101 3 = some (0, 0) := by decide +kernel
theorem fl_101_9 : am_fl 101 9 = some (1, 0, 2) := by decide +kernel
theorem fl_101_15 : am_fl 101 15 = some (1, 2, 2) := by decide +kernel
theorem fl_1_15 : am_fl 1 15 = some (1, 2, 2) := by decide +kernel
theorem fl_1_19 : am_fl 1 19 = some (3, 8, 2) := by decide +kernel
theorem lk_1_24 : am_lk 1 24 = some (10, 0) := by decide +kernel
theorem lk_1_28 : am_lk 1 28 = some (11, 0) := by decide +kernel
theorem lk_1_32 : am_lk 1 32 = some (14, 0) := by decide +kernel
theorem lk_1_47 : am_lk 1 47 = some (12, 0) := by decide +kernel
theorem fl_1_61 : am_fl 1 61 = some (1, 1, 0) := by decide +kernel
theorem fl_1_9 : am_fl 1 9 = some (1, 0, 2) := by decide +kernel
theorem lk_1_44 : am_lk 1 44 = some (13, 0) := by decide +kernel
theorem fl_1_41 : am_fl 1 41 = some (3, 11, 2) := by decide +kernel
theorem lk_1_38 : am_lk 1 38 = some (15, 0) := by decide +kernel
theorem lk_1_50 : am_lk 1 50 = some (16, 0) := by decide +kernel
theorem lk_1_35 : am_lk 1 35 = some (17, 0) := by decide +kernel
theorem fl_1_53 : am_fl 1 53 = some (3, 12, 2) := by decide +kernel
theorem lk_1_56 : am_lk 1 56 = some (214, 0) := by decide +kernel
theorem lk_102_3 : am_lk 102 3 = some (0, 0) := by decide +kernel
theorem fl_102_9 : am_fl 102 9 = some (2, 0, 2) := by decide +kernel
theorem fl_102_15 : am_fl 102 15 = some (2, 1, 2) := by decide +kernel
theorem fl_102_18 : am_fl 102 18 = some (2, 2, 2) := by decide +kernel
theorem fl_102_21 : am_fl 102 21 = some (2, 3, 2) := by decide +kernel
theorem fl_102_24 : am_fl 102 24 = some (2, 4, 2) := by decide +kernel
theorem fl_102_27 : am_fl 102 27 = some (2, 5, 2) := by decide +kernel
theorem fl_2_27 : am_fl 2 27 = some (2, 5, 2) := by decide +kernel
theorem fl_2_31 : am_fl 2 31 = some (3, 0, 0) := by decide +kernel
theorem lk_2_37 : am_lk 2 37 = some (42, 0) := by decide +kernel
theorem fl_2_9 : am_fl 2 9 = some (2, 0, 2) := by decide +kernel
theorem ct_2_41 : am_lu am_cT 2 41 = some (-1000000) := by decide +kernel
theorem ct_2_42 : am_lu am_cT 2 42 = some 1000000 := by decide +kernel
theorem lk_2_43 : am_lk 2 43 = some (58, 0) := by decide +kernel
theorem fl_2_47 : am_fl 2 47 = some (3, 2, 0) := by decide +kernel
theorem lk_2_50 : am_lk 2 50 = some (55, 0) := by decide +kernel
theorem fl_2_54 : am_fl 2 54 = some (3, 9, 2) := by decide +kernel
theorem fl_2_57 : am_fl 2 57 = some (3, 10, 2) := by decide +kernel
theorem lk_2_60 : am_lk 2 60 = some (3, 0) := by decide +kernel
theorem lk_2_65 : am_lk 2 65 = some (21, 0) := by decide +kernel
theorem fl_2_113 : am_fl 2 113 = some (3, 1, 0) := by decide +kernel
theorem fl_2_116 : am_fl 2 116 = some (3, 5, 2) := by decide +kernel
theorem fl_2_119 : am_fl 2 119 = some (3, 6, 2) := by decide +kernel
theorem lk_2_122 : am_lk 2 122 = some (50, 0) := by decide +kernel
theorem lk_2_87 : am_lk 2 87 = some (23, 0) := by decide +kernel
theorem lk_2_90 : am_lk 2 90 = some (24, 0) := by decide +kernel
theorem fl_2_18 : am_fl 2 18 = some (2, 2, 2) := by decide +kernel
theorem fl_2_84 : am_fl 2 84 = some (3, 8, 2) := by decide +kernel
theorem lk_2_69 : am_lk 2 69 = some (20, 0) := by decide +kernel
theorem fl_2_15 : am_fl 2 15 = some (2, 1, 2) := by decide +kernel
theorem lk_2_73 : am_lk 2 73 = some (215, 0) := by decide +kernel
theorem fl_2_78 : am_fl 2 78 = some (3, 3, 0) := by decide +kernel
theorem lk_2_81 : am_lk 2 81 = some (2, 0) := by decide +kernel
theorem lk_2_93 : am_lk 2 93 = some (27, 0) := by decide +kernel
theorem fl_2_21 : am_fl 2 21 = some (2, 3, 2) := by decide +kernel
theorem lk_2_96 : am_lk 2 96 = some (28, 0) := by decide +kernel
theorem fl_2_24 : am_fl 2 24 = some (2, 4, 2) := by decide +kernel
theorem lk_2_99 : am_lk 2 99 = some (1, 0) := by decide +kernel
theorem lk_2_105 : am_lk 2 105 = some (30, 0) := by decide +kernel
theorem lk_2_109 : am_lk 2 109 = some (32, 0) := by decide +kernel
theorem lk_103_3 : am_lk 103 3 = some (0, 0) := by decide +kernel
theorem fl_103_9 : am_fl 103 9 = some (3, 5, 2) := by decide +kernel
theorem fl_103_15 : am_fl 103 15 = some (3, 6, 2) := by decide +kernel
theorem fl_103_18 : am_fl 103 18 = some (3, 7, 2) := by decide +kernel
theorem fl_103_21 : am_fl 103 21 = some (3, 8, 2) := by decide +kernel
theorem fl_103_24 : am_fl 103 24 = some (3, 9, 2) := by decide +kernel
theorem fl_103_27 : am_fl 103 27 = some (3, 10, 2) := by decide +kernel
theorem fl_103_30 : am_fl 103 30 = some (3, 11, 2) := by decide +kernel
theorem fl_103_33 : am_fl 103 33 = some (3, 12, 2) := by decide +kernel
theorem fl_103_36 : am_fl 103 36 = some (3, 13, 2) := by decide +kernel
theorem fl_103_39 : am_fl 103 39 = some (3, 14, 2) := by decide +kernel
theorem fl_103_42 : am_fl 103 42 = some (3, 15, 2) := by decide +kernel
theorem fl_3_45 : am_fl 3 45 = some (3, 0, 0) := by decide +kernel
theorem fl_3_49 : am_fl 3 49 = some (3, 1, 0) := by decide +kernel
theorem fl_3_52 : am_fl 3 52 = some (3, 2, 0) := by decide +kernel
theorem fl_3_55 : am_fl 3 55 = some (3, 3, 0) := by decide +kernel
theorem fl_3_58 : am_fl 3 58 = some (3, 4, 0) := by decide +kernel
theorem fl_3_42 : am_fl 3 42 = some (3, 15, 2) := by decide +kernel
theorem ct_3_61 : am_lu am_cT 3 61 = some (-1000000) := by decide +kernel
theorem lk_3_62 : am_lk 3 62 = some (215, 0) := by decide +kernel
theorem fl_3_9 : am_fl 3 9 = some (3, 5, 2) := by decide +kernel
theorem fl_3_15 : am_fl 3 15 = some (3, 6, 2) := by decide +kernel
theorem fl_3_18 : am_fl 3 18 = some (3, 7, 2) := by decide +kernel
theorem fl_3_21 : am_fl 3 21 = some (3, 8, 2) := by decide +kernel
theorem fl_3_24 : am_fl 3 24 = some (3, 9, 2) := by decide +kernel
theorem fl_3_27 : am_fl 3 27 = some (3, 10, 2) := by decide +kernel
theorem fl_3_30 : am_fl 3 30 = some (3, 11, 2) := by decide +kernel
theorem fl_3_33 : am_fl 3 33 = some (3, 12, 2) := by decide +kernel
theorem lk_3_68 : am_lk 3 68 = some (1, 0) := by decide +kernel
theorem fl_3_36 : am_fl 3 36 = some (3, 13, 2) := by decide +kernel
theorem fl_3_39 : am_fl 3 39 = some (3, 14, 2) := by decide +kernel
theorem lk_3_90 : am_lk 3 90 = some (41, 0) := by decide +kernel
theorem lk_3_93 : am_lk 3 93 = some (43, 0) := by decide +kernel
theorem lk_3_87 : am_lk 3 87 = some (42, 0) := by decide +kernel
theorem lk_3_80 : am_lk 3 80 = some (44, 0) := by decide +kernel
theorem lk_3_108 : am_lk 3 108 = some (45, 0) := by decide +kernel
theorem lk_3_84 : am_lk 3 84 = some (50, 0) := by decide +kernel
theorem lk_3_74 : am_lk 3 74 = some (2, 0) := by decide +kernel
theorem lk_3_96 : am_lk 3 96 = some (53, 0) := by decide +kernel
theorem lk_3_100 : am_lk 3 100 = some (54, 0) := by decide +kernel
theorem lk_3_104 : am_lk 3 104 = some (55, 0) := by decide +kernel
theorem lk_104_3 : am_lk 104 3 = some (0, 0) := by decide +kernel
theorem nt_104_9 : am_lu am_nT 104 9 = some 3 := by decide +kernel
theorem lk_104_11 : am_lk 104 11 = some (34, 1) := by decide +kernel
theorem fl_104_12 : am_fl 104 12 = some (4, 0, 2) := by decide +kernel
theorem fl_104_18 : am_fl 104 18 = some (4, 2, 2) := by decide +kernel
theorem fl_4_12 : am_fl 4 12 = some (4, 0, 2) := by decide +kernel
theorem lk_4_22 : am_lk 4 22 = some (35, 0) := by decide +kernel
theorem fl_4_18 : am_fl 4 18 = some (4, 2, 2) := by decide +kernel
theorem lk_4_25 : am_lk 4 25 = some (85, 0) := by decide +kernel
theorem lk_4_30 : am_lk 4 30 = some (61, 0) := by decide +kernel
theorem lk_4_34 : am_lk 4 34 = some (65, 0) := by decide +kernel
theorem lk_4_37 : am_lk 4 37 = some (67, 0) := by decide +kernel
theorem lk_4_40 : am_lk 4 40 = some (62, 0) := by decide +kernel
theorem ct_4_44 : am_lu am_cT 4 44 = some (-1000000) := by decide +kernel
theorem lk_4_45 : am_lk 4 45 = some (64, 0) := by decide +kernel
theorem fl_4_49 : am_fl 4 49 = some (3, 0, 0) := by decide +kernel
theorem fl_4_53 : am_fl 4 53 = some (7, 2, 0) := by decide +kernel
theorem lk_4_59 : am_lk 4 59 = some (63, 0) := by decide +kernel
theorem lk_4_62 : am_lk 4 62 = some (86, 0) := by decide +kernel
theorem fl_4_87 : am_fl 4 87 = some (4, 1, 0) := by decide +kernel
theorem fl_4_80 : am_fl 4 80 = some (7, 3, 0) := by decide +kernel
theorem lk_4_83 : am_lk 4 83 = some (96, 1) := by decide +kernel
theorem lk_4_56 : am_lk 4 56 = some (66, 0) := by decide +kernel
theorem lk_4_65 : am_lk 4 65 = some (36, 0) := by decide +kernel
theorem lk_4_69 : am_lk 4 69 = some (68, 0) := by decide +kernel
theorem lk_4_73 : am_lk 4 73 = some (69, 0) := by decide +kernel
theorem lk_4_76 : am_lk 4 76 = some (37, 0) := by decide +kernel
theorem lk_105_3 : am_lk 105 3 = some (0, 0) := by decide +kernel
theorem fl_105_9 : am_fl 105 9 = some (5, 2, 2) := by decide +kernel
theorem fl_105_15 : am_fl 105 15 = some (5, 5, 2) := by decide +kernel
theorem fl_105_19 : am_fl 105 19 = some (5, 6, 2) := by decide +kernel
theorem fl_5_19 : am_fl 5 19 = some (5, 6, 2) := by decide +kernel
theorem lk_5_23 : am_lk 5 23 = some (23, 0) := by decide +kernel
theorem lk_5_29 : am_lk 5 29 = some (24, 0) := by decide +kernel
theorem fl_5_15 : am_fl 5 15 = some (5, 5, 2) := by decide +kernel
theorem fl_5_32 : am_fl 5 32 = some (3, 3, 0) := by decide +kernel
theorem fl_5_38 : am_fl 5 38 = some (5, 3, 0) := by decide +kernel
theorem fl_5_9 : am_fl 5 9 = some (5, 2, 2) := by decide +kernel
theorem ct_5_41 : am_lu am_cT 5 41 = some 1000000 := by decide +kernel
theorem lk_5_42 : am_lk 5 42 = some (215, 0) := by decide +kernel
theorem fl_5_48 : am_fl 5 48 = some (3, 0, 0) := by decide +kernel
theorem fl_5_51 : am_fl 5 51 = some (2, 2, 2) := by decide +kernel
theorem lk_5_54 : am_lk 5 54 = some (72, 0) := by decide +kernel
theorem fl_5_58 : am_fl 5 58 = some (5, 0, 0) := by decide +kernel
theorem fl_5_61 : am_fl 5 61 = some (5, 1, 0) := by decide +kernel
theorem fl_5_64 : am_fl 5 64 = some (3, 8, 2) := by decide +kernel
theorem lk_5_67 : am_lk 5 67 = some (73, 0) := by decide +kernel
theorem lk_5_70 : am_lk 5 70 = some (74, 0) := by decide +kernel
theorem fl_5_74 : am_fl 5 74 = some (2, 0, 2) := by decide +kernel
theorem fl_5_77 : am_fl 5 77 = some (5, 4, 1) := by decide +kernel
theorem fl_5_81 : am_fl 5 81 = some (3, 1, 0) := by decide +kernel
theorem lk_5_84 : am_lk 5 84 = some (50, 0) := by decide +kernel
theorem fl_5_88 : am_fl 5 88 = some (3, 5, 2) := by decide +kernel
theorem fl_5_91 : am_fl 5 91 = some (3, 6, 2) := by decide +kernel
theorem lk_5_94 : am_lk 5 94 = some (214, 0) := by decide +kernel
theorem lk_5_100 : am_lk 5 100 = some (75, 0) := by decide +kernel
theorem lk_106_3 : am_lk 106 3 = some (0, 0) := by decide +kernel
theorem fl_106_9 : am_fl 106 9 = some (6, 0, 2) := by decide +kernel
theorem fl_106_15 : am_fl 106 15 = some (6, 1, 2) := by decide +kernel
theorem fl_106_20 : am_fl 106 20 = some (6, 2, 2) := by decide +kernel
theorem lk_106_23 : am_lk 106 23 = some (215, 0) := by decide +kernel
theorem fl_6_9 : am_fl 6 9 = some (6, 0, 2) := by decide +kernel
theorem fl_6_15 : am_fl 6 15 = some (6, 1, 2) := by decide +kernel
theorem fl_6_20 : am_fl 6 20 = some (6, 2, 2) := by decide +kernel
theorem lk_6_23 : am_lk 6 23 = some (215, 0) := by decide +kernel
theorem lk_6_29 : am_lk 6 29 = some (79, 0) := by decide +kernel
theorem lk_6_33 : am_lk 6 33 = some (80, 0) := by decide +kernel
theorem lk_107_3 : am_lk 107 3 = some (0, 0) := by decide +kernel
theorem fl_107_9 : am_fl 107 9 = some (7, 0, 2) := by decide +kernel
theorem fl_7_15 : am_fl 7 15 = some (7, 5, 0) := by decide +kernel
theorem lk_7_19 : am_lk 7 19 = some (86, 0) := by decide +kernel
theorem fl_7_22 : am_fl 7 22 = some (7, 4, 0) := by decide +kernel
theorem fl_7_25 : am_fl 7 25 = some (7, 1, 0) := by decide +kernel
theorem fl_7_9 : am_fl 7 9 = some (7, 0, 2) := by decide +kernel
theorem fl_7_28 : am_fl 7 28 = some (7, 2, 0) := by decide +kernel
theorem lk_7_31 : am_lk 7 31 = some (3, 0) := by decide +kernel
theorem lk_7_37 : am_lk 7 37 = some (87, 0) := by decide +kernel
theorem fl_7_41 : am_fl 7 41 = some (7, 3, 0) := by decide +kernel
theorem lk_108_3 : am_lk 108 3 = some (0, 0) := by decide +kernel
theorem nt_108_9 : am_lu am_nT 108 9 = some 3 := by decide +kernel
theorem lk_108_11 : am_lk 108 11 = some (34, 1) := by decide +kernel
theorem fl_108_12 : am_fl 108 12 = some (8, 1, 2) := by decide +kernel
theorem fl_108_18 : am_fl 108 18 = some (8, 0, 2) := by decide +kernel
theorem fl_8_12 : am_fl 8 12 = some (8, 1, 2) := by decide +kernel
theorem fl_8_18 : am_fl 8 18 = some (8, 0, 2) := by decide +kernel
theorem lk_8_21 : am_lk 8 21 = some (38, 0) := by decide +kernel
theorem lk_8_25 : am_lk 8 25 = some (90, 0) := by decide +kernel
theorem fl_8_29 : am_fl 8 29 = some (3, 3, 0) := by decide +kernel
theorem lk_8_33 : am_lk 8 33 = some (52, 0) := by decide +kernel
theorem lk_8_37 : am_lk 8 37 = some (91, 0) := by decide +kernel
theorem lk_8_41 : am_lk 8 41 = some (55, 0) := by decide +kernel
theorem lk_8_62 : am_lk 8 62 = some (44, 0) := by decide +kernel
theorem lk_8_51 : am_lk 8 51 = some (47, 0) := by decide +kernel
theorem lk_8_55 : am_lk 8 55 = some (48, 0) := by decide +kernel
theorem lk_8_58 : am_lk 8 58 = some (49, 0) := by decide +kernel
theorem fl_8_44 : am_fl 8 44 = some (3, 9, 2) := by decide +kernel
theorem fl_8_48 : am_fl 8 48 = some (3, 12, 2) := by decide +kernel
theorem lk_109_1 : am_lk 109 1 = some (0, 0) := by decide +kernel
theorem nt_109_7 : am_lu am_nT 109 7 = some 6 := by decide +kernel
theorem lk_109_9 : am_lk 109 9 = some (76, 0) := by decide +kernel
theorem fl_109_10 : am_fl 109 10 = some (9, 0, 2) := by decide +kernel
theorem nt_109_16 : am_lu am_nT 109 16 = some 7 := by decide +kernel
theorem lk_109_18 : am_lk 109 18 = some (84, 1) := by decide +kernel
theorem fl_109_19 : am_fl 109 19 = some (9, 1, 2) := by decide +kernel
theorem nt_109_23 : am_lu am_nT 109 23 = some 4 := by decide +kernel
theorem lk_109_25 : am_lk 109 25 = some (59, 0) := by decide +kernel
theorem fl_109_28 : am_fl 109 28 = some (9, 2, 2) := by decide +kernel
theorem nt_109_32 : am_lu am_nT 109 32 = some 3 := by decide +kernel
theorem lk_109_34 : am_lk 109 34 = some (34, 1) := by decide +kernel
theorem fl_109_35 : am_fl 109 35 = some (9, 3, 2) := by decide +kernel
theorem nt_109_39 : am_lu am_nT 109 39 = some 0 := by decide +kernel
theorem lk_109_41 : am_lk 109 41 = some (4, 0) := by decide +kernel
theorem fl_109_42 : am_fl 109 42 = some (9, 4, 2) := by decide +kernel
theorem fl_109_46 : am_fl 109 46 = some (9, 5, 2) := by decide +kernel
theorem nt_109_50 : am_lu am_nT 109 50 = some 2 := by decide +kernel
theorem lk_109_52 : am_lk 109 52 = some (19, 0) := by decide +kernel
theorem fl_109_55 : am_fl 109 55 = some (9, 6, 2) := by decide +kernel
theorem nt_109_59 : am_lu am_nT 109 59 = some 5 := by decide +kernel
theorem lk_109_61 : am_lk 109 61 = some (70, 0) := by decide +kernel
theorem fl_109_64 : am_fl 109 64 = some (9, 7, 2) := by decide +kernel
theorem nt_109_68 : am_lu am_nT 109 68 = some 8 := by decide +kernel
theorem lk_109_70 : am_lk 109 70 = some (88, 0) := by decide +kernel
theorem fl_109_71 : am_fl 109 71 = some (9, 8, 2) := by decide +kernel
theorem nt_109_75 : am_lu am_nT 109 75 = some 1 := by decide +kernel
theorem lk_109_77 : am_lk 109 77 = some (8, 0) := by decide +kernel
theorem fl_109_78 : am_fl 109 78 = some (9, 9, 2) := by decide +kernel
theorem lk_9_82 : am_lk 9 82 = some (95, 0) := by decide +kernel
theorem lk_9_86 : am_lk 9 86 = some (96, 0) := by decide +kernel
theorem ct_9_90 : am_lu am_cT 9 90 = some (-1000001) := by decide +kernel
theorem lk_9_91 : am_lk 9 91 = some (97, 0) := by decide +kernel
theorem fl_9_10 : am_fl 9 10 = some (9, 0, 2) := by decide +kernel
theorem lk_9_95 : am_lk 9 95 = some (77, 0) := by decide +kernel
theorem lk_9_99 : am_lk 9 99 = some (98, 0) := by decide +kernel
theorem fl_9_338 : am_fl 9 338 = some (9, 11, 0) := by decide +kernel
theorem ct_9_341 : am_lu am_cT 9 341 = some (-1000010) := by decide +kernel
theorem lk_9_102 : am_lk 9 102 = some (78, 0) := by decide +kernel
theorem lk_9_106 : am_lk 9 106 = some (81, 0) := by decide +kernel
theorem lk_9_109 : am_lk 9 109 = some (82, 0) := by decide +kernel
theorem fl_9_113 : am_fl 9 113 = some (6, 2, 2) := by decide +kernel
theorem lk_9_117 : am_lk 9 117 = some (1, 0) := by decide +kernel
theorem lk_9_123 : am_lk 9 123 = some (79, 0) := by decide +kernel
theorem fl_9_126 : am_fl 9 126 = some (6, 0, 2) := by decide +kernel
theorem fl_9_130 : am_fl 9 130 = some (6, 1, 2) := by decide +kernel
theorem fl_9_19 : am_fl 9 19 = some (9, 1, 2) := by decide +kernel
theorem fl_9_133 : am_fl 9 133 = some (7, 1, 0) := by decide +kernel
theorem ct_9_137 : am_lu am_cT 9 137 = some (-1000003) := by decide +kernel
theorem fl_9_138 : am_fl 9 138 = some (7, 0, 2) := by decide +kernel
theorem fl_9_28 : am_fl 9 28 = some (9, 2, 2) := by decide +kernel
theorem lk_9_141 : am_lk 9 141 = some (60, 0) := by decide +kernel
theorem fl_9_145 : am_fl 9 145 = some (4, 1, 0) := by decide +kernel
theorem fl_9_148 : am_fl 9 148 = some (9, 10, 0) := by decide +kernel
theorem ct_9_151 : am_lu am_cT 9 151 = some (-1000100) := by decide +kernel
theorem fl_9_152 : am_fl 9 152 = some (7, 4, 0) := by decide +kernel
theorem fl_9_35 : am_fl 9 35 = some (9, 3, 2) := by decide +kernel
theorem fl_9_155 : am_fl 9 155 = some (4, 0, 2) := by decide +kernel
theorem lk_9_158 : am_lk 9 158 = some (38, 0) := by decide +kernel
theorem fl_9_42 : am_fl 9 42 = some (9, 4, 2) := by decide +kernel
theorem lk_9_161 : am_lk 9 161 = some (5, 0) := by decide +kernel
theorem fl_9_164 : am_fl 9 164 = some (3, 0, 0) := by decide +kernel
theorem lk_9_167 : am_lk 9 167 = some (39, 0) := by decide +kernel
theorem fl_9_170 : am_fl 9 170 = some (3, 4, 0) := by decide +kernel
theorem lk_9_173 : am_lk 9 173 = some (6, 0) := by decide +kernel
theorem lk_9_176 : am_lk 9 176 = some (40, 0) := by decide +kernel
theorem lk_9_179 : am_lk 9 179 = some (46, 0) := by decide +kernel
theorem lk_9_182 : am_lk 9 182 = some (47, 0) := by decide +kernel
theorem lk_9_185 : am_lk 9 185 = some (48, 0) := by decide +kernel
theorem ct_9_189 : am_lu am_cT 9 189 = some (-1000002) := by decide +kernel
theorem lk_9_190 : am_lk 9 190 = some (49, 0) := by decide +kernel
theorem fl_9_194 : am_fl 9 194 = some (3, 10, 2) := by decide +kernel
theorem lk_9_197 : am_lk 9 197 = some (51, 0) := by decide +kernel
theorem fl_9_200 : am_fl 9 200 = some (3, 3, 0) := by decide +kernel
theorem lk_9_203 : am_lk 9 203 = some (52, 0) := by decide +kernel
theorem fl_9_207 : am_fl 9 207 = some (0, 2, 0) := by decide +kernel
theorem lk_9_208 : am_lk 9 208 = some (7, 0) := by decide +kernel
theorem fl_9_211 : am_fl 9 211 = some (3, 9, 2) := by decide +kernel
theorem lk_9_214 : am_lk 9 214 = some (2, 0) := by decide +kernel
theorem fl_9_220 : am_fl 9 220 = some (3, 11, 2) := by decide +kernel
theorem fl_9_223 : am_fl 9 223 = some (3, 12, 2) := by decide +kernel
theorem lk_9_226 : am_lk 9 226 = some (45, 0) := by decide +kernel
theorem lk_9_229 : am_lk 9 229 = some (56, 0) := by decide +kernel
theorem lk_9_232 : am_lk 9 232 = some (57, 0) := by decide +kernel
theorem fl_9_235 : am_fl 9 235 = some (3, 13, 2) := by decide +kernel
theorem fl_9_238 : am_fl 9 238 = some (3, 14, 2) := by decide +kernel
theorem lk_9_241 : am_lk 9 241 = some (42, 0) := by decide +kernel
theorem fl_9_244 : am_fl 9 244 = some (3, 8, 2) := by decide +kernel
theorem lk_9_247 : am_lk 9 247 = some (50, 0) := by decide +kernel
theorem fl_9_55 : am_fl 9 55 = some (9, 6, 2) := by decide +kernel
theorem lk_9_250 : am_lk 9 250 = some (20, 0) := by decide +kernel
theorem fl_9_253 : am_fl 9 253 = some (2, 0, 2) := by decide +kernel
theorem lk_9_256 : am_lk 9 256 = some (115, 0) := by decide +kernel
theorem ct_9_320 : am_lu am_cT 9 320 = some (-1000000) := by decide +kernel
theorem lk_9_259 : am_lk 9 259 = some (22, 0) := by decide +kernel
theorem fl_9_64 : am_fl 9 64 = some (9, 7, 2) := by decide +kernel
theorem lk_9_262 : am_lk 9 262 = some (71, 0) := by decide +kernel
theorem fl_9_265 : am_fl 9 265 = some (5, 0, 0) := by decide +kernel
theorem fl_9_268 : am_fl 9 268 = some (5, 1, 0) := by decide +kernel
theorem lk_9_271 : am_lk 9 271 = some (25, 0) := by decide +kernel
theorem lk_9_274 : am_lk 9 274 = some (26, 0) := by decide +kernel
theorem lk_9_277 : am_lk 9 277 = some (121, 0) := by decide +kernel
theorem lk_9_281 : am_lk 9 281 = some (29, 0) := by decide +kernel
theorem lk_9_285 : am_lk 9 285 = some (31, 0) := by decide +kernel
theorem lk_9_289 : am_lk 9 289 = some (33, 0) := by decide +kernel
theorem lk_9_292 : am_lk 9 292 = some (123, 0) := by decide +kernel
theorem lk_9_295 : am_lk 9 295 = some (125, 0) := by decide +kernel
theorem fl_9_71 : am_fl 9 71 = some (9, 8, 2) := by decide +kernel
theorem lk_9_298 : am_lk 9 298 = some (89, 0) := by decide +kernel
theorem lk_9_302 : am_lk 9 302 = some (92, 0) := by decide +kernel
theorem lk_9_342 : am_lk 9 342 = some (126, 0) := by decide +kernel
theorem fl_9_46 : am_fl 9 46 = some (9, 5, 2) := by decide +kernel
theorem lk_9_305 : am_lk 9 305 = some (131, 0) := by decide +kernel
theorem fl_9_78 : am_fl 9 78 = some (9, 9, 2) := by decide +kernel
theorem fl_9_308 : am_fl 9 308 = some (1, 1, 0) := by decide +kernel
theorem lk_9_311 : am_lk 9 311 = some (9, 0) := by decide +kernel
theorem lk_9_314 : am_lk 9 314 = some (18, 0) := by decide +kernel
theorem fl_9_317 : am_fl 9 317 = some (1, 0, 2) := by decide +kernel
theorem lk_9_321 : am_lk 9 321 = some (83, 0) := by decide +kernel
theorem fl_9_324 : am_fl 9 324 = some (3, 1, 0) := by decide +kernel
theorem fl_9_327 : am_fl 9 327 = some (3, 2, 0) := by decide +kernel
theorem lk_9_330 : am_lk 9 330 = some (58, 0) := by decide +kernel
theorem lk_9_333 : am_lk 9 333 = some (214, 0) := by decide +kernel
theorem lk_110_1 : am_lk 110 1 = some (0, 0) := by decide +kernel
theorem fl_110_7 : am_fl 110 7 = some (10, 0, 2) := by decide +kernel
theorem fl_110_13 : am_fl 110 13 = some (10, 1, 2) := by decide +kernel
theorem fl_110_16 : am_fl 110 16 = some (10, 2, 2) := by decide +kernel
theorem fl_110_19 : am_fl 110 19 = some (10, 4, 2) := by decide +kernel
theorem fl_110_22 : am_fl 110 22 = some (10, 8, 2) := by decide +kernel
theorem fl_110_25 : am_fl 110 25 = some (10, 10, 2) := by decide +kernel
theorem fl_110_28 : am_fl 110 28 = some (10, 11, 2) := by decide +kernel
theorem fl_110_31 : am_fl 110 31 = some (10, 12, 2) := by decide +kernel
theorem fl_110_35 : am_fl 110 35 = some (10, 14, 2) := by decide +kernel
theorem fl_110_38 : am_fl 110 38 = some (10, 20, 2) := by decide +kernel
theorem fl_110_41 : am_fl 110 41 = some (10, 21, 2) := by decide +kernel
theorem fl_110_44 : am_fl 110 44 = some (10, 22, 2) := by decide +kernel
theorem fl_110_47 : am_fl 110 47 = some (10, 23, 2) := by decide +kernel
theorem fl_110_50 : am_fl 110 50 = some (10, 24, 2) := by decide +kernel
theorem fl_110_53 : am_fl 110 53 = some (10, 25, 2) := by decide +kernel
theorem fl_110_56 : am_fl 110 56 = some (10, 26, 2) := by decide +kernel
theorem lk_10_70 : am_lk 10 70 = some (138, 0) := by decide +kernel
theorem dt_10_74 : am_lu am_dT 10 74 = some 2 := by decide +kernel
theorem lk_10_66 : am_lk 10 66 = some (139, 0) := by decide +kernel
theorem ct_10_76 : am_lu am_cT 10 76 = some (-1000001) := by decide +kernel
theorem lk_10_77 : am_lk 10 77 = some (140, 0) := by decide +kernel
theorem fl_10_7 : am_fl 10 7 = some (10, 0, 2) := by decide +kernel
theorem fl_10_13 : am_fl 10 13 = some (10, 1, 2) := by decide +kernel
theorem fl_10_16 : am_fl 10 16 = some (10, 2, 2) := by decide +kernel
theorem lk_10_81 : am_lk 10 81 = some (141, 0) := by decide +kernel
theorem dt_10_64 : am_lu am_dT 10 64 = some 7 := by decide +kernel
theorem fl_10_59 : am_fl 10 59 = some (10, 3, 0) := by decide +kernel
theorem ct_10_63 : am_lu am_cT 10 63 = some (-1000010) := by decide +kernel
theorem dt_10_84 : am_lu am_dT 10 84 = some 255 := by decide +kernel
theorem fl_10_86 : am_fl 10 86 = some (10, 5, 0) := by decide +kernel
theorem ct_10_89 : am_lu am_cT 10 89 = some (-1000003) := by decide +kernel
theorem fl_10_19 : am_fl 10 19 = some (10, 4, 2) := by decide +kernel
theorem fl_10_100 : am_fl 10 100 = some (10, 19, 0) := by decide +kernel
theorem lk_10_142 : am_lk 10 142 = some (147, 0) := by decide +kernel
theorem ct_10_145 : am_lu am_cT 10 145 = some (-1000100) := by decide +kernel
theorem fl_10_97 : am_fl 10 97 = some (10, 16, 0) := by decide +kernel
theorem fl_10_146 : am_fl 10 146 = some (10, 7, 1) := by decide +kernel
theorem fl_10_150 : am_fl 10 150 = some (10, 9, 0) := by decide +kernel
theorem fl_10_38 : am_fl 10 38 = some (10, 20, 2) := by decide +kernel
theorem fl_10_22 : am_fl 10 22 = some (10, 8, 2) := by decide +kernel
theorem lk_10_153 : am_lk 10 153 = some (156, 0) := by decide +kernel
theorem fl_10_94 : am_fl 10 94 = some (10, 15, 0) := by decide +kernel
theorem lk_10_119 : am_lk 10 119 = some (148, 0) := by decide +kernel
theorem fl_10_110 : am_fl 10 110 = some (10, 17, 0) := by decide +kernel
theorem fl_10_113 : am_fl 10 113 = some (10, 18, 0) := by decide +kernel
theorem lk_10_122 : am_lk 10 122 = some (150, 0) := by decide +kernel
theorem lk_10_125 : am_lk 10 125 = some (151, 0) := by decide +kernel
theorem lk_10_129 : am_lk 10 129 = some (152, 0) := by decide +kernel
theorem lk_10_135 : am_lk 10 135 = some (153, 0) := by decide +kernel
theorem lk_10_139 : am_lk 10 139 = some (154, 0) := by decide +kernel
theorem dt_10_103 : am_lu am_dT 10 103 = some 97 := by decide +kernel
theorem dt_10_105 : am_lu am_dT 10 105 = some 122 := by decide +kernel
theorem lk_10_107 : am_lk 10 107 = some (149, 0) := by decide +kernel
theorem dt_10_90 : am_lu am_dT 10 90 = some 48 := by decide +kernel
theorem dt_10_92 : am_lu am_dT 10 92 = some 57 := by decide +kernel
theorem fl_10_116 : am_fl 10 116 = some (10, 6, 0) := by decide +kernel
theorem lk_10_132 : am_lk 10 132 = some (155, 0) := by decide +kernel
theorem lk_10_179 : am_lk 10 179 = some (159, 0) := by decide +kernel
theorem lk_10_182 : am_lk 10 182 = some (160, 0) := by decide +kernel
theorem lk_10_168 : am_lk 10 168 = some (161, 0) := by decide +kernel
theorem fl_10_25 : am_fl 10 25 = some (10, 10, 2) := by decide +kernel
theorem lk_10_157 : am_lk 10 157 = some (162, 0) := by decide +kernel
theorem lk_10_185 : am_lk 10 185 = some (164, 0) := by decide +kernel
theorem lk_10_188 : am_lk 10 188 = some (165, 0) := by decide +kernel
theorem lk_10_172 : am_lk 10 172 = some (166, 0) := by decide +kernel
theorem ct_10_191 : am_lu am_cT 10 191 = some (-1000002) := by decide +kernel
theorem lk_10_192 : am_lk 10 192 = some (167, 0) := by decide +kernel
theorem lk_10_176 : am_lk 10 176 = some (168, 0) := by decide +kernel
theorem dt_10_196 : am_lu am_dT 10 196 = some 20 := by decide +kernel
theorem lk_10_198 : am_lk 10 198 = some (170, 0) := by decide +kernel
theorem lk_10_161 : am_lk 10 161 = some (171, 0) := by decide +kernel
theorem lk_10_165 : am_lk 10 165 = some (172, 0) := by decide +kernel
theorem dt_10_202 : am_lu am_dT 10 202 = some 3 := by decide +kernel
theorem lk_10_204 : am_lk 10 204 = some (176, 0) := by decide +kernel
theorem lk_10_207 : am_lk 10 207 = some (178, 0) := by decide +kernel
theorem lk_10_211 : am_lk 10 211 = some (180, 0) := by decide +kernel
theorem ct_10_210 : am_lu am_cT 10 210 = some (-1000000) := by decide +kernel
theorem lk_10_214 : am_lk 10 214 = some (183, 0) := by decide +kernel
theorem fl_10_44 : am_fl 10 44 = some (10, 22, 2) := by decide +kernel
theorem fl_10_41 : am_fl 10 41 = some (10, 21, 2) := by decide +kernel
theorem lk_10_230 : am_lk 10 230 = some (185, 0) := by decide +kernel
theorem fl_10_50 : am_fl 10 50 = some (10, 24, 2) := by decide +kernel
theorem lk_10_226 : am_lk 10 226 = some (186, 0) := by decide +kernel
theorem ct_10_221 : am_lu am_cT 10 221 = some 1000000 := by decide +kernel
theorem fl_10_47 : am_fl 10 47 = some (10, 23, 2) := by decide +kernel
theorem lk_10_222 : am_lk 10 222 = some (188, 0) := by decide +kernel
theorem lk_10_218 : am_lk 10 218 = some (187, 0) := by decide +kernel
theorem dt_10_242 : am_lu am_dT 10 242 = some 30 := by decide +kernel
theorem fl_10_53 : am_fl 10 53 = some (10, 25, 2) := by decide +kernel
theorem lk_10_244 : am_lk 10 244 = some (190, 0) := by decide +kernel
theorem lk_10_248 : am_lk 10 248 = some (193, 0) := by decide +kernel
theorem lk_10_234 : am_lk 10 234 = some (191, 0) := by decide +kernel
theorem lk_10_238 : am_lk 10 238 = some (192, 0) := by decide +kernel
theorem lk_10_251 : am_lk 10 251 = some (196, 0) := by decide +kernel
theorem fl_10_56 : am_fl 10 56 = some (10, 26, 2) := by decide +kernel
theorem dt_10_254 : am_lu am_dT 10 254 = some 6 := by decide +kernel
theorem dt_10_256 : am_lu am_dT 10 256 = some 99 := by decide +kernel
theorem dt_10_258 : am_lu am_dT 10 258 = some 150 := by decide +kernel
theorem dt_10_260 : am_lu am_dT 10 260 = some 10 := by decide +kernel
theorem dt_10_264 : am_lu am_dT 10 264 = some 12 := by decide +kernel
theorem lk_10_266 : am_lk 10 266 = some (200, 0) := by decide +kernel
theorem lk_10_269 : am_lk 10 269 = some (201, 0) := by decide +kernel
theorem dt_10_262 : am_lu am_dT 10 262 = some 13 := by decide +kernel
theorem fl_10_28 : am_fl 10 28 = some (10, 11, 2) := by decide +kernel
theorem fl_10_31 : am_fl 10 31 = some (10, 12, 2) := by decide +kernel
theorem dt_10_273 : am_lu am_dT 10 273 = some 5 := by decide +kernel
theorem lk_10_275 : am_lk 10 275 = some (206, 0) := by decide +kernel
theorem fl_10_280 : am_fl 10 280 = some (10, 13, 0) := by decide +kernel
theorem lk_10_297 : am_lk 10 297 = some (208, 0) := by decide +kernel
theorem dt_10_300 : am_lu am_dT 10 300 = some 121110 := by decide +kernel
theorem dt_10_302 : am_lu am_dT 10 302 = some 1110 := by decide +kernel
theorem lk_10_289 : am_lk 10 289 = some (209, 0) := by decide +kernel
theorem lk_10_304 : am_lk 10 304 = some (210, 0) := by decide +kernel
theorem dt_10_307 : am_lu am_dT 10 307 = some 2320 := by decide +kernel
theorem dt_10_283 : am_lu am_dT 10 283 = some 242120 := by decide +kernel
theorem dt_10_285 : am_lu am_dT 10 285 = some 222120 := by decide +kernel
theorem dt_10_287 : am_lu am_dT 10 287 = some 2120 := by decide +kernel
theorem dt_10_278 : am_lu am_dT 10 278 = some 100 := by decide +kernel
theorem fl_10_35 : am_fl 10 35 = some (10, 14, 2) := by decide +kernel
theorem dt_10_293 : am_lu am_dT 10 293 = some 141310 := by decide +kernel
theorem dt_10_295 : am_lu am_dT 10 295 = some 1310 := by decide +kernel
theorem ct_11_265 : am_lu am_cT 11 265 = some 1431655765 := by decide +kernel
theorem ct_11_266 : am_lu am_cT 11 266 = some 858993459 := by decide +kernel
theorem ct_11_267 : am_lu am_cT 11 267 = some 252645135 := by decide +kernel
theorem mM_0 : am_M[0]? = some (yX0_init, cX0_init, 2, none, 0, 2, 1, 289, 2232) := rfl
theorem mM_1 : am_M[1]? = some (yX0_forget, cX0_forget, 1, none, 0, 1, 1, 0, 0) := rfl
theorem mM_2 : am_M[2]? = some (yX0_keep, cX0_keep, 2, none, 0, 1, 2, 0, 0) := rfl
theorem mM_3 : am_M[3]? = some (yX0_giveBack, cX0_giveBack, 2, none, 0, 1, 2, 0, 0) := rfl
theorem mM_4 : am_M[4]? = some (yX1_init, cX1_init, 2, none, 1, 2, 2, 1, 16) := rfl
theorem mM_5 : am_M[5]? = some (yX1_sizeOf, cX1_sizeOf, 2, some .int, 1, 1, 2, 0, 0) := rfl
theorem mM_6 : am_M[6]? = some (yX1_sizeAmongCouriers, cX1_sizeAmongCouriers, 2, some .int, 1, 1, 2, 0, 0) := rfl
theorem mM_7 : am_M[7]? = some (yX1_leave, cX1_leave, 2, none, 1, 1, 2, 0, 0) := rfl
theorem mM_8 : am_M[8]? = some (yX1_sizeOfCourier, cX1_sizeOfCourier, 2, some .int, 1, 1, 2, 0, 0) := rfl
theorem mM_9 : am_M[9]? = some (yX1_sizeOfShip, cX1_sizeOfShip, 2, some .int, 1, 1, 2, 0, 0) := rfl
theorem mM_10 : am_M[10]? = some (yX1_sizeOfTrader, cX1_sizeOfTrader, 2, some .int, 1, 1, 2, 0, 0) := rfl
theorem mM_11 : am_M[11]? = some (yX1_markAmongTraders, cX1_markAmongTraders, 2, some .int, 1, 1, 2, 0, 0) := rfl
theorem mM_12 : am_M[12]? = some (yX1_markOfTrader, cX1_markOfTrader, 2, some .int, 1, 1, 2, 0, 0) := rfl
theorem mM_13 : am_M[13]? = some (yX1_markOfShip, cX1_markOfShip, 2, some .int, 1, 1, 2, 0, 0) := rfl
theorem mM_14 : am_M[14]? = some (yX1_markOf, cX1_markOf, 2, some .int, 1, 1, 2, 0, 0) := rfl
theorem mM_15 : am_M[15]? = some (yX2_init, cX2_init, 2, none, 2, 2, 2, 5, 30) := rfl
theorem mM_16 : am_M[16]? = some (yX2_foretell, cX2_foretell, 6, none, 2, 1, 3, 0, 0) := rfl
theorem mM_17 : am_M[17]? = some (yX2_spread, cX2_spread, 8, none, 2, 1, 3, 0, 0) := rfl
theorem mM_18 : am_M[18]? = some (yX2_dayCarried, cX2_dayCarried, 4, some .int, 2, 1, 4, 0, 0) := rfl
theorem mM_19 : am_M[19]? = some (yX2_foretellWithout, cX2_foretellWithout, 3, none, 2, 1, 3, 0, 0) := rfl
theorem mM_20 : am_M[20]? = some (yX2_foretellKnowing, cX2_foretellKnowing, 4, none, 2, 1, 3, 0, 0) := rfl
theorem mM_21 : am_M[21]? = some (yX2_daysAhead, cX2_daysAhead, 5, some .int, 2, 1, 4, 0, 0) := rfl
theorem mM_22 : am_M[22]? = some (yX2_dayAllSure, cX2_dayAllSure, 5, some .int, 2, 1, 3, 0, 0) := rfl
theorem mM_23 : am_M[23]? = some (yX2_hearFromAll, cX2_hearFromAll, 3, none, 2, 1, 1, 0, 0) := rfl
theorem mM_24 : am_M[24]? = some (yX2_spreadFrom, cX2_spreadFrom, 3, none, 2, 1, 3, 0, 0) := rfl
theorem mM_25 : am_M[25]? = some (yX2_origins, cX2_origins, 6, some .int, 2, 1, 4, 0, 0) := rfl
theorem mM_26 : am_M[26]? = some (yX2_fits, cX2_fits, 7, some .boolean, 2, 1, 4, 0, 0) := rfl
theorem mM_27 : am_M[27]? = some (yX2_weightInTime, cX2_weightInTime, 8, some .int, 2, 1, 5, 0, 0) := rfl
theorem mM_28 : am_M[28]? = some (yX2_weightOf, cX2_weightOf, 5, some .int, 2, 0, 3, 0, 0) := rfl
theorem mM_29 : am_M[29]? = some (yX2_weightOfAll, cX2_weightOfAll, 1, some .int, 2, 1, 1, 0, 0) := rfl
theorem mM_30 : am_M[30]? = some (yX3_init, cX3_init, 1, none, 3, 2, 1, 11, 76) := rfl
theorem mM_31 : am_M[31]? = some (yX3_clear, cX3_clear, 1, none, 3, 1, 1, 0, 0) := rfl
theorem mM_32 : am_M[32]? = some (yX3_addWay, cX3_addWay, 4, none, 3, 1, 4, 0, 0) := rfl
theorem mM_33 : am_M[33]? = some (yX3_addShip, cX3_addShip, 3, none, 3, 1, 3, 0, 0) := rfl
theorem mM_34 : am_M[34]? = some (yX3_become, cX3_become, 2, none, 3, 1, 2, 0, 0) := rfl
theorem mM_35 : am_M[35]? = some (yX3_isPort, cX3_isPort, 2, some .boolean, 3, 1, 2, 0, 0) := rfl
theorem mM_36 : am_M[36]? = some (yX3_begin, cX3_begin, 3, some .int, 3, 1, 2, 0, 0) := rfl
theorem mM_37 : am_M[37]? = some (yX3_learn, cX3_learn, 3, some .int, 3, 1, 3, 0, 0) := rfl
theorem mM_38 : am_M[38]? = some (yX3_knownSince, cX3_knownSince, 3, some .int, 3, 1, 3, 0, 0) := rfl
theorem mM_39 : am_M[39]? = some (yX3_tellShipsInPorts, cX3_tellShipsInPorts, 2, none, 3, 1, 1, 0, 0) := rfl
theorem mM_40 : am_M[40]? = some (yX3_isAtSea, cX3_isAtSea, 2, some .boolean, 3, 1, 2, 0, 0) := rfl
theorem mM_41 : am_M[41]? = some (yX3_newsIn, cX3_newsIn, 4, some .int, 3, 1, 2, 0, 0) := rfl
theorem mM_42 : am_M[42]? = some (yX3_isShip, cX3_isShip, 2, some .boolean, 3, 1, 2, 0, 0) := rfl
theorem mM_43 : am_M[43]? = some (yX3_isWay, cX3_isWay, 2, some .boolean, 3, 1, 2, 0, 0) := rfl
theorem mM_44 : am_M[44]? = some (yX3_canLeave, cX3_canLeave, 3, some .boolean, 3, 1, 3, 0, 0) := rfl
theorem mM_45 : am_M[45]? = some (yX3_leave, cX3_leave, 3, none, 3, 1, 3, 0, 0) := rfl
theorem mM_46 : am_M[46]? = some (yX3_daysOn, cX3_daysOn, 4, some .int, 3, 1, 3, 0, 0) := rfl
theorem mM_47 : am_M[47]? = some (yX3_isNone, cX3_isNone, 1, some .boolean, 3, 1, 1, 0, 0) := rfl
theorem mM_48 : am_M[48]? = some (yX3_passDay, cX3_passDay, 3, some .int, 3, 1, 1, 0, 0) := rfl
theorem mM_49 : am_M[49]? = some (yX3_signal, cX3_signal, 7, some .int, 3, 1, 4, 0, 0) := rfl
theorem mM_50 : am_M[50]? = some (yX3_tellPort, cX3_tellPort, 4, some .int, 3, 1, 2, 0, 0) := rfl
theorem mM_51 : am_M[51]? = some (yX3_isTold, cX3_isTold, 3, some .boolean, 3, 1, 3, 0, 0) := rfl
theorem mM_52 : am_M[52]? = some (yX3_shipsIn, cX3_shipsIn, 4, some .int, 3, 1, 2, 0, 0) := rfl
theorem mM_53 : am_M[53]? = some (yX3_isNews, cX3_isNews, 2, some .boolean, 3, 1, 2, 0, 0) := rfl
theorem mM_54 : am_M[54]? = some (yX3_shipsAtSea, cX3_shipsAtSea, 3, some .int, 3, 1, 1, 0, 0) := rfl
theorem mM_55 : am_M[55]? = some (yX4_init, cX4_init, 2, none, 4, 2, 2, 12, 92) := rfl
theorem mM_56 : am_M[56]? = some (yX4_readWhole, cX4_readWhole, 1, some .boolean, 4, 1, 1, 0, 0) := rfl
theorem mM_57 : am_M[57]? = some (yX4_readPorts, cX4_readPorts, 2, some .boolean, 4, 1, 1, 0, 0) := rfl
theorem mM_58 : am_M[58]? = some (yX4_expect, cX4_expect, 2, some .boolean, 4, 1, 2, 0, 0) := rfl
theorem mM_59 : am_M[59]? = some (yX4_refuse, cX4_refuse, 2, some .boolean, 4, 1, 2, 0, 0) := rfl
theorem mM_60 : am_M[60]? = some (yX4_number, cX4_number, 5, some .int, 4, 1, 4, 0, 0) := rfl
theorem mM_61 : am_M[61]? = some (yX4_readWays, cX4_readWays, 2, some .boolean, 4, 1, 1, 0, 0) := rfl
theorem mM_62 : am_M[62]? = some (yX4_readWay, cX4_readWay, 4, some .boolean, 4, 1, 1, 0, 0) := rfl
theorem mM_63 : am_M[63]? = some (yX4_readShips, cX4_readShips, 2, some .boolean, 4, 1, 1, 0, 0) := rfl
theorem mM_64 : am_M[64]? = some (yX4_kindOf, cX4_kindOf, 1, some .int, 4, 0, 1, 0, 0) := rfl
theorem mM_65 : am_M[65]? = some (yX4_readShip, cX4_readShip, 3, some .boolean, 4, 1, 1, 0, 0) := rfl
theorem mM_66 : am_M[66]? = some (yX5_init, cX5_init, 3, none, 5, 2, 3, 1, 384) := rfl
theorem mM_67 : am_M[67]? = some (yX5_seek, cX5_seek, 5, none, 5, 1, 4, 0, 0) := rfl
theorem mM_68 : am_M[68]? = some (yX5_come, cX5_come, 6, none, 5, 1, 4, 0, 0) := rfl
theorem mM_69 : am_M[69]? = some (yX5_settle, cX5_settle, 8, none, 5, 1, 3, 0, 0) := rfl
theorem mM_70 : am_M[70]? = some (yX5_judge, cX5_judge, 5, none, 5, 1, 2, 0, 0) := rfl
theorem mM_71 : am_M[71]? = some (yX5_judgeOne, cX5_judgeOne, 3, none, 5, 1, 3, 0, 0) := rfl
theorem mM_72 : am_M[72]? = some (yX6_init, cX6_init, 1, none, 6, 2, 1, 11, 344) := rfl
theorem mM_73 : am_M[73]? = some (yX6_lay, cX6_lay, 4, none, 6, 1, 4, 0, 0) := rfl
theorem mM_74 : am_M[74]? = some (yX6_findingAt, cX6_findingAt, 4, some .int, 6, 1, 4, 0, 0) := rfl
theorem mM_75 : am_M[75]? = some (yX6_isMissing, cX6_isMissing, 2, some .boolean, 6, 1, 2, 0, 0) := rfl
theorem mM_76 : am_M[76]? = some (yX6_hasPlaces, cX6_hasPlaces, 4, some .boolean, 6, 1, 4, 0, 0) := rfl
theorem mM_77 : am_M[77]? = some (yX6_put, cX6_put, 5, some .int, 6, 1, 4, 0, 0) := rfl
theorem mM_78 : am_M[78]? = some (yX6_findingOfMove, cX6_findingOfMove, 6, some .int, 6, 1, 6, 0, 0) := rfl
theorem mM_79 : am_M[79]? = some (yX6_present, cX6_present, 3, some .int, 6, 1, 1, 0, 0) := rfl
theorem mM_80 : am_M[80]? = some (yX7_init, cX7_init, 1, none, 7, 2, 1, 1, 120) := rfl
theorem mM_81 : am_M[81]? = some (yX7_rewind, cX7_rewind, 1, none, 7, 1, 1, 0, 0) := rfl
theorem mM_82 : am_M[82]? = some (yX7_step, cX7_step, 1, none, 7, 1, 1, 0, 0) := rfl
theorem mM_83 : am_M[83]? = some (yX7_isFigure, cX7_isFigure, 1, some .boolean, 7, 0, 1, 0, 0) := rfl
theorem mM_84 : am_M[84]? = some (yX8_init, cX8_init, 2, none, 8, 2, 2, 12, 92) := rfl
theorem mM_85 : am_M[85]? = some (yX8_follow, cX8_follow, 8, none, 8, 1, 5, 0, 0) := rfl
theorem mM_86 : am_M[86]? = some (yX8_comeIn, cX8_comeIn, 3, none, 8, 1, 2, 0, 0) := rfl
theorem mM_87 : am_M[87]? = some (yX8_setOut, cX8_setOut, 3, some .boolean, 8, 1, 3, 0, 0) := rfl
theorem mM_88 : am_M[88]? = some (yX8_outcome, cX8_outcome, 3, some .int, 8, 1, 3, 0, 0) := rfl
theorem mM_89 : am_M[89]? = some (yX9_init, cX9_init, 2, none, 9, 2, 1, 377, 3621) := rfl
theorem mM_90 : am_M[90]? = some (yX9_row, cX9_row, 4, some .int, 9, 1, 4, 0, 0) := rfl
theorem mM_91 : am_M[91]? = some (yX9_isRow, cX9_isRow, 1, some .boolean, 9, 0, 1, 0, 0) := rfl
theorem mM_92 : am_M[92]? = some (yX9_within, cX9_within, 3, some .boolean, 9, 0, 3, 0, 0) := rfl
theorem mM_93 : am_M[93]? = some (yX9_found, cX9_found, 2, some .int, 9, 1, 2, 0, 0) := rfl
theorem mM_94 : am_M[94]? = some (yX9_fine, cX9_fine, 2, some .int, 9, 1, 2, 0, 0) := rfl
theorem mM_95 : am_M[95]? = some (yX9_set, cX9_set, 5, some .int, 9, 1, 4, 0, 0) := rfl
theorem mM_96 : am_M[96]? = some (yX9_copy, cX9_copy, 7, some .int, 9, 1, 6, 0, 0) := rfl
theorem mM_97 : am_M[97]? = some (yX9_drop, cX9_drop, 2, some .int, 9, 1, 2, 0, 0) := rfl
theorem mM_98 : am_M[98]? = some (yX9_feed, cX9_feed, 2, some .int, 9, 1, 2, 0, 0) := rfl
theorem mM_99 : am_M[99]? = some (yX9_league, cX9_league, 2, some .int, 9, 1, 1, 0, 0) := rfl
theorem mM_100 : am_M[100]? = some (yX9_fault, cX9_fault, 1, some .int, 9, 1, 1, 0, 0) := rfl
theorem mM_101 : am_M[101]? = some (yX9_happen, cX9_happen, 2, some .int, 9, 1, 2, 0, 0) := rfl
theorem mM_102 : am_M[102]? = some (yX9_sail, cX9_sail, 3, some .int, 9, 1, 3, 0, 0) := rfl
theorem mM_103 : am_M[103]? = some (yX9_days, cX9_days, 4, some .int, 9, 1, 2, 0, 0) := rfl
theorem mM_104 : am_M[104]? = some (yX9_undo, cX9_undo, 1, some .int, 9, 1, 1, 0, 0) := rfl
theorem mM_105 : am_M[105]? = some (yX9_ship, cX9_ship, 3, some .int, 9, 1, 3, 0, 0) := rfl
theorem mM_106 : am_M[106]? = some (yX9_port, cX9_port, 3, some .int, 9, 1, 3, 0, 0) := rfl
theorem mM_107 : am_M[107]? = some (yX9_news, cX9_news, 3, some .int, 9, 1, 3, 0, 0) := rfl
theorem mM_108 : am_M[108]? = some (yX9_knows, cX9_knows, 3, some .int, 9, 1, 3, 0, 0) := rfl
theorem mM_109 : am_M[109]? = some (yX9_takes, cX9_takes, 3, some .int, 9, 1, 3, 0, 0) := rfl
theorem mM_110 : am_M[110]? = some (yX9_ahead, cX9_ahead, 3, some .int, 9, 1, 3, 0, 0) := rfl
theorem mM_111 : am_M[111]? = some (yX9_tillHorizon, cX9_tillHorizon, 1, some .int, 9, 0, 1, 0, 0) := rfl
theorem mM_112 : am_M[112]? = some (yX9_carried, cX9_carried, 4, some .int, 9, 1, 4, 0, 0) := rfl
theorem mM_113 : am_M[113]? = some (yX9_fame, cX9_fame, 5, some .int, 9, 1, 5, 0, 0) := rfl
theorem mM_114 : am_M[114]? = some (yX9_overtaken, cX9_overtaken, 4, some .int, 9, 1, 4, 0, 0) := rfl
theorem mM_115 : am_M[115]? = some (yX9_sure, cX9_sure, 3, some .int, 9, 1, 3, 0, 0) := rfl
theorem mM_116 : am_M[116]? = some (yX9_began, cX9_began, 5, some .int, 9, 1, 4, 0, 0) := rfl
theorem mM_117 : am_M[117]? = some (yX9_arePairs, cX9_arePairs, 5, some .boolean, 9, 1, 4, 0, 0) := rfl
theorem mM_118 : am_M[118]? = some (yX9_odds, cX9_odds, 9, some .int, 9, 1, 6, 0, 0) := rfl
theorem mM_119 : am_M[119]? = some (yX9_commonDivisor, cX9_commonDivisor, 4, some .int, 9, 0, 2, 0, 0) := rfl
theorem mM_120 : am_M[120]? = some (yX9_followed, cX9_followed, 7, some .int, 9, 1, 6, 0, 0) := rfl
theorem mM_121 : am_M[121]? = some (yX9_areOrders, cX9_areOrders, 4, some .boolean, 9, 0, 3, 0, 0) := rfl
theorem mM_122 : am_M[122]? = some (yX9_isOrder, cX9_isOrder, 1, some .boolean, 9, 0, 1, 0, 0) := rfl
theorem mM_123 : am_M[123]? = some (yX9_image, cX9_image, 2, some .int, 9, 1, 2, 0, 0) := rfl
theorem mM_124 : am_M[124]? = some (yX9_restore, cX9_restore, 2, some .int, 9, 1, 2, 0, 0) := rfl
theorem mM_125 : am_M[125]? = some (yX9_kind, cX9_kind, 2, some .int, 9, 1, 2, 0, 0) := rfl
theorem mM_126 : am_M[126]? = some (yX9_as, cX9_as, 3, some .int, 9, 1, 3, 0, 0) := rfl
theorem mM_127 : am_M[127]? = some (yX9_isKind, cX9_isKind, 2, some .boolean, 9, 0, 2, 0, 0) := rfl
theorem mM_128 : am_M[128]? = some (yX9_ask, cX9_ask, 3, some .int, 9, 1, 3, 0, 0) := rfl
theorem mM_129 : am_M[129]? = some (yX9_trace, cX9_trace, 2, some .int, 9, 1, 2, 0, 0) := rfl
theorem mM_130 : am_M[130]? = some (yX9_count, cX9_count, 2, some .int, 9, 1, 2, 0, 0) := rfl
theorem mM_131 : am_M[131]? = some (yX9_status, cX9_status, 1, some .int, 9, 1, 1, 0, 0) := rfl
theorem mM_132 : am_M[132]? = some (yX10_init, cX10_init, 2, none, 10, 2, 1, 16, 26801) := rfl
theorem mM_133 : am_M[133]? = some (yX10_row, cX10_row, 5, some .int, 10, 1, 4, 0, 0) := rfl
theorem mM_134 : am_M[134]? = some (yX10_isRow, cX10_isRow, 1, some .boolean, 10, 0, 1, 0, 0) := rfl
theorem mM_135 : am_M[135]? = some (yX10_in, cX10_in, 6, some .boolean, 10, 0, 3, 0, 0) := rfl
theorem mM_136 : am_M[136]? = some (yX10_found, cX10_found, 2, some .int, 10, 1, 2, 0, 0) := rfl
theorem mM_137 : am_M[137]? = some (yX10_well, cX10_well, 2, some .int, 10, 1, 2, 0, 0) := rfl
theorem mM_138 : am_M[138]? = some (yX10_set, cX10_set, 4, some .int, 10, 1, 4, 0, 0) := rfl
theorem mM_139 : am_M[139]? = some (yX10_copy, cX10_copy, 8, some .int, 10, 1, 6, 0, 0) := rfl
theorem mM_140 : am_M[140]? = some (yX10_drop, cX10_drop, 3, some .int, 10, 1, 2, 0, 0) := rfl
theorem mM_141 : am_M[141]? = some (yX10_feed, cX10_feed, 2, some .int, 10, 1, 2, 0, 0) := rfl
theorem mM_142 : am_M[142]? = some (yX10_league, cX10_league, 1, some .int, 10, 1, 1, 0, 0) := rfl
theorem mM_143 : am_M[143]? = some (yX10_reads, cX10_reads, 2, some .boolean, 10, 1, 1, 0, 0) := rfl
theorem mM_144 : am_M[144]? = some (yX10_next, cX10_next, 2, none, 10, 1, 1, 0, 0) := rfl
theorem mM_145 : am_M[145]? = some (yX10_isFigure, cX10_isFigure, 1, some .boolean, 10, 0, 1, 0, 0) := rfl
theorem mM_146 : am_M[146]? = some (yX10_fails, cX10_fails, 2, some .boolean, 10, 1, 2, 0, 0) := rfl
theorem mM_147 : am_M[147]? = some (yX10_number, cX10_number, 5, some .boolean, 10, 1, 5, 0, 0) := rfl
theorem mM_148 : am_M[148]? = some (yX10_sign, cX10_sign, 2, some .boolean, 10, 1, 2, 0, 0) := rfl
theorem mM_149 : am_M[149]? = some (yX10_readsWay, cX10_readsWay, 3, some .boolean, 10, 1, 1, 0, 0) := rfl
theorem mM_150 : am_M[150]? = some (yX10_readsShip, cX10_readsShip, 3, some .boolean, 10, 1, 1, 0, 0) := rfl
theorem mM_151 : am_M[151]? = some (yX10_sortOf, cX10_sortOf, 1, some .int, 10, 0, 1, 0, 0) := rfl
theorem mM_152 : am_M[152]? = some (yX10_copies, cX10_copies, 5, none, 10, 0, 4, 0, 0) := rfl
theorem mM_153 : am_M[153]? = some (yX10_fault, cX10_fault, 1, some .int, 10, 1, 1, 0, 0) := rfl
theorem mM_154 : am_M[154]? = some (yX10_happen, cX10_happen, 3, some .int, 10, 1, 2, 0, 0) := rfl
theorem mM_155 : am_M[155]? = some (yX10_isPort, cX10_isPort, 2, some .boolean, 10, 1, 2, 0, 0) := rfl
theorem mM_156 : am_M[156]? = some (yX10_remember, cX10_remember, 2, none, 10, 1, 1, 0, 0) := rfl
theorem mM_157 : am_M[157]? = some (yX10_learns, cX10_learns, 2, none, 10, 0, 1, 0, 0) := rfl
theorem mM_158 : am_M[158]? = some (yX10_knownIn, cX10_knownIn, 4, some .int, 10, 0, 2, 0, 0) := rfl
theorem mM_159 : am_M[159]? = some (yX10_sail, cX10_sail, 3, some .int, 10, 1, 3, 0, 0) := rfl
theorem mM_160 : am_M[160]? = some (yX10_isShip, cX10_isShip, 2, some .boolean, 10, 1, 2, 0, 0) := rfl
theorem mM_161 : am_M[161]? = some (yX10_isWay, cX10_isWay, 2, some .boolean, 10, 1, 2, 0, 0) := rfl
theorem mM_162 : am_M[162]? = some (yX10_endOf, cX10_endOf, 4, some .int, 10, 0, 3, 0, 0) := rfl
theorem mM_163 : am_M[163]? = some (yX10_sails, cX10_sails, 4, none, 10, 0, 3, 0, 0) := rfl
theorem mM_164 : am_M[164]? = some (yX10_takesOf, cX10_takesOf, 5, some .int, 10, 0, 3, 0, 0) := rfl
theorem mM_165 : am_M[165]? = some (yX10_days, cX10_days, 4, some .int, 10, 1, 2, 0, 0) := rfl
theorem mM_166 : am_M[166]? = some (yX10_goes, cX10_goes, 3, some .int, 10, 0, 1, 0, 0) := rfl
theorem mM_167 : am_M[167]? = some (yX10_hears, cX10_hears, 7, some .int, 10, 0, 4, 0, 0) := rfl
theorem mM_168 : am_M[168]? = some (yX10_tells, cX10_tells, 6, some .int, 10, 0, 2, 0, 0) := rfl
theorem mM_169 : am_M[169]? = some (yX10_undo, cX10_undo, 1, some .int, 10, 1, 1, 0, 0) := rfl
theorem mM_170 : am_M[170]? = some (yX10_ship, cX10_ship, 4, some .int, 10, 1, 3, 0, 0) := rfl
theorem mM_171 : am_M[171]? = some (yX10_port, cX10_port, 5, some .int, 10, 1, 3, 0, 0) := rfl
theorem mM_172 : am_M[172]? = some (yX10_isTwo, cX10_isTwo, 1, some .boolean, 10, 0, 1, 0, 0) := rfl
theorem mM_173 : am_M[173]? = some (yX10_news, cX10_news, 3, some .int, 10, 1, 3, 0, 0) := rfl
theorem mM_174 : am_M[174]? = some (yX10_isNews, cX10_isNews, 2, some .boolean, 10, 1, 2, 0, 0) := rfl
theorem mM_175 : am_M[175]? = some (yX10_knows, cX10_knows, 3, some .int, 10, 1, 3, 0, 0) := rfl
theorem mM_176 : am_M[176]? = some (yX10_orNone, cX10_orNone, 1, some .int, 10, 0, 1, 0, 0) := rfl
theorem mM_177 : am_M[177]? = some (yX10_takes, cX10_takes, 3, some .int, 10, 1, 3, 0, 0) := rfl
theorem mM_178 : am_M[178]? = some (yX10_ahead, cX10_ahead, 3, some .int, 10, 1, 3, 0, 0) := rfl
theorem mM_179 : am_M[179]? = some (yX10_tries, cX10_tries, 5, none, 10, 1, 4, 0, 0) := rfl
theorem mM_180 : am_M[180]? = some (yX10_carried, cX10_carried, 5, some .int, 10, 1, 4, 0, 0) := rfl
theorem mM_181 : am_M[181]? = some (yX10_layBrings, cX10_layBrings, 7, none, 10, 1, 3, 0, 0) := rfl
theorem mM_182 : am_M[182]? = some (yX10_layComes, cX10_layComes, 3, none, 10, 1, 2, 0, 0) := rfl
theorem mM_183 : am_M[183]? = some (yX10_beginOf, cX10_beginOf, 2, some .int, 10, 1, 2, 0, 0) := rfl
theorem mM_184 : am_M[184]? = some (yX10_sinks, cX10_sinks, 8, none, 10, 1, 3, 0, 0) := rfl
theorem mM_185 : am_M[185]? = some (yX10_fame, cX10_fame, 14, some .int, 10, 1, 5, 0, 0) := rfl
theorem mM_186 : am_M[186]? = some (yX10_lays, cX10_lays, 11, none, 10, 1, 8, 0, 0) := rfl
theorem mM_187 : am_M[187]? = some (yX10_isThere, cX10_isThere, 3, some .boolean, 10, 1, 3, 0, 0) := rfl
theorem mM_188 : am_M[188]? = some (yX10_placeOf, cX10_placeOf, 4, some .int, 10, 0, 4, 0, 0) := rfl
theorem mM_189 : am_M[189]? = some (yX10_bits, cX10_bits, 3, some .int, 10, 0, 1, 0, 0) := rfl
theorem mM_190 : am_M[190]? = some (yX10_overtaken, cX10_overtaken, 4, some .int, 10, 1, 4, 0, 0) := rfl
theorem mM_191 : am_M[191]? = some (yX10_sure, cX10_sure, 8, some .int, 10, 1, 3, 0, 0) := rfl
theorem mM_192 : am_M[192]? = some (yX10_laySignals, cX10_laySignals, 5, none, 10, 1, 1, 0, 0) := rfl
theorem mM_193 : am_M[193]? = some (yX10_began, cX10_began, 10, some .int, 10, 1, 4, 0, 0) := rfl
theorem mM_194 : am_M[194]? = some (yX10_odds, cX10_odds, 12, some .int, 10, 1, 6, 0, 0) := rfl
theorem mM_195 : am_M[195]? = some (yX10_followed, cX10_followed, 9, some .int, 10, 1, 6, 0, 0) := rfl
theorem mM_196 : am_M[196]? = some (yX10_isOrder, cX10_isOrder, 1, some .boolean, 10, 0, 1, 0, 0) := rfl
theorem mM_197 : am_M[197]? = some (yX10_obeys, cX10_obeys, 4, some .int, 10, 1, 3, 0, 0) := rfl
theorem mM_198 : am_M[198]? = some (yX10_image, cX10_image, 2, some .int, 10, 1, 2, 0, 0) := rfl
theorem mM_199 : am_M[199]? = some (yX10_restore, cX10_restore, 2, some .int, 10, 1, 2, 0, 0) := rfl
theorem mM_200 : am_M[200]? = some (yX10_kind, cX10_kind, 2, some .int, 10, 1, 2, 0, 0) := rfl
theorem mM_201 : am_M[201]? = some (yX10_as, cX10_as, 3, some .int, 10, 1, 3, 0, 0) := rfl
theorem mM_202 : am_M[202]? = some (yX10_isOf, cX10_isOf, 2, some .boolean, 10, 0, 2, 0, 0) := rfl
theorem mM_203 : am_M[203]? = some (yX10_ask, cX10_ask, 5, some .int, 10, 1, 3, 0, 0) := rfl
theorem mM_204 : am_M[204]? = some (yX10_mark, cX10_mark, 4, some .int, 10, 1, 2, 0, 0) := rfl
theorem mM_205 : am_M[205]? = some (yX10_leave, cX10_leave, 7, none, 10, 1, 2, 0, 0) := rfl
theorem mM_206 : am_M[206]? = some (yX10_sizeOf, cX10_sizeOf, 4, some .int, 10, 1, 2, 0, 0) := rfl
theorem mM_207 : am_M[207]? = some (yX10_trace, cX10_trace, 2, some .int, 10, 1, 2, 0, 0) := rfl
theorem mM_208 : am_M[208]? = some (yX10_count, cX10_count, 5, some .int, 10, 1, 2, 0, 0) := rfl
theorem mM_209 : am_M[209]? = some (yX10_status, cX10_status, 1, some .int, 10, 1, 1, 0, 0) := rfl
theorem mM_210 : am_M[210]? = some (yJ6_bitCount_0f7a4, cJ6_bitCount_0f7a4, 1, some .int, 11, 0, 1, 0, 0) := rfl
theorem mM_211 : am_M[211]? = some (yJ7_fill_53178, cJ7_fill_53178, 4, none, 13, 0, 2, 0, 0) := rfl
theorem mX0_init {d : Nat} {a : Nat} {S S' : am_S} {D D' : am_D} (hn : am_nx S' = am_nx S + 289) (hs : am_sl S' = am_sl S + 2232) (h : am_ev (am_sem d) 100 cX0_init 0 [.ref a, .retAddr 0] [] S D (none, S', D')) : am_sem (d + 1) 0 [.ref a] S D = some (none, S', D') := am_sem_of mM_0 ⟨by exact Nat.le_of_ble_eq_true rfl, rfl, hn, hs, Or.inl ⟨rfl, rfl⟩, h⟩
theorem mX0_forget {d : Nat} {a : Nat} {S S' : am_S} {D D' : am_D} (hn : am_nx S' = am_nx S + 0) (hs : am_sl S' = am_sl S + 0) (h : am_ev (am_sem d) 0 cX0_forget 0 [.ref a] [] S D (none, S', D')) : am_sem (d + 1) 1 [.ref a] S D = some (none, S', D') := am_sem_of mM_1 ⟨by exact Nat.le_of_ble_eq_true rfl, rfl, hn, hs, Or.inl ⟨rfl, rfl⟩, h⟩
theorem mX0_keep {d : Nat} {a : Nat} {x0 : Nat} {S S' : am_S} {D D' : am_D} (hn : am_nx S' = am_nx S + 0) (hs : am_sl S' = am_sl S + 0) (h : am_ev (am_sem d) 0 cX0_keep 0 [.ref a, .ref x0] [] S D (none, S', D')) : am_sem (d + 1) 2 [.ref a, .ref x0] S D = some (none, S', D') := am_sem_of mM_2 ⟨by exact Nat.le_of_ble_eq_true rfl, rfl, hn, hs, Or.inl ⟨rfl, rfl⟩, h⟩
theorem mX0_giveBack {d : Nat} {a : Nat} {x0 : Nat} {S S' : am_S} {D D' : am_D} (hn : am_nx S' = am_nx S + 0) (hs : am_sl S' = am_sl S + 0) (h : am_ev (am_sem d) 0 cX0_giveBack 0 [.ref a, .ref x0] [] S D (none, S', D')) : am_sem (d + 1) 3 [.ref a, .ref x0] S D = some (none, S', D') := am_sem_of mM_3 ⟨by exact Nat.le_of_ble_eq_true rfl, rfl, hn, hs, Or.inl ⟨rfl, rfl⟩, h⟩
theorem mX1_init {d : Nat} {a : Nat} {x0 : Nat} {S S' : am_S} {D D' : am_D} (hn : am_nx S' = am_nx S + 1) (hs : am_sl S' = am_sl S + 16) (h : am_ev (am_sem d) 101 cX1_init 0 [.ref a, .ref x0] [] S D (none, S', D')) : am_sem (d + 1) 4 [.ref a, .ref x0] S D = some (none, S', D') := am_sem_of mM_4 ⟨by exact Nat.le_of_ble_eq_true rfl, rfl, hn, hs, Or.inl ⟨rfl, rfl⟩, h⟩
theorem mX1_sizeOf {d : Nat} {a : Nat} {x0 : Int32} {S S' : am_S} {D D' : am_D} {x : Int32} (hn : am_nx S' = am_nx S + 0) (hs : am_sl S' = am_sl S + 0) (h : am_ev (am_sem d) 1 cX1_sizeOf 0 [.ref a, .int x0] [] S D (some (.int x), S', D')) : am_sem (d + 1) 5 [.ref a, .int x0] S D = some (some (.int x), S', D') := am_sem_of mM_5 ⟨by exact Nat.le_of_ble_eq_true rfl, rfl, hn, hs, Or.inr (Or.inl ⟨x, rfl, rfl⟩), h⟩
theorem mX1_sizeAmongCouriers {d : Nat} {a : Nat} {x0 : Int32} {S S' : am_S} {D D' : am_D} {x : Int32} (hn : am_nx S' = am_nx S + 0) (hs : am_sl S' = am_sl S + 0) (h : am_ev (am_sem d) 1 cX1_sizeAmongCouriers 0 [.ref a, .int x0] [] S D (some (.int x), S', D')) : am_sem (d + 1) 6 [.ref a, .int x0] S D = some (some (.int x), S', D') := am_sem_of mM_6 ⟨by exact Nat.le_of_ble_eq_true rfl, rfl, hn, hs, Or.inr (Or.inl ⟨x, rfl, rfl⟩), h⟩
theorem mX1_leave {d : Nat} {a : Nat} {x0 : Int32} {S S' : am_S} {D D' : am_D} (hn : am_nx S' = am_nx S + 0) (hs : am_sl S' = am_sl S + 0) (h : am_ev (am_sem d) 1 cX1_leave 0 [.ref a, .int x0] [] S D (none, S', D')) : am_sem (d + 1) 7 [.ref a, .int x0] S D = some (none, S', D') := am_sem_of mM_7 ⟨by exact Nat.le_of_ble_eq_true rfl, rfl, hn, hs, Or.inl ⟨rfl, rfl⟩, h⟩
theorem mX1_sizeOfCourier {d : Nat} {a : Nat} {x0 : Int32} {S S' : am_S} {D D' : am_D} {x : Int32} (hn : am_nx S' = am_nx S + 0) (hs : am_sl S' = am_sl S + 0) (h : am_ev (am_sem d) 1 cX1_sizeOfCourier 0 [.ref a, .int x0] [] S D (some (.int x), S', D')) : am_sem (d + 1) 8 [.ref a, .int x0] S D = some (some (.int x), S', D') := am_sem_of mM_8 ⟨by exact Nat.le_of_ble_eq_true rfl, rfl, hn, hs, Or.inr (Or.inl ⟨x, rfl, rfl⟩), h⟩
theorem mX1_sizeOfShip {d : Nat} {a : Nat} {x0 : Int32} {S S' : am_S} {D D' : am_D} {x : Int32} (hn : am_nx S' = am_nx S + 0) (hs : am_sl S' = am_sl S + 0) (h : am_ev (am_sem d) 1 cX1_sizeOfShip 0 [.ref a, .int x0] [] S D (some (.int x), S', D')) : am_sem (d + 1) 9 [.ref a, .int x0] S D = some (some (.int x), S', D') := am_sem_of mM_9 ⟨by exact Nat.le_of_ble_eq_true rfl, rfl, hn, hs, Or.inr (Or.inl ⟨x, rfl, rfl⟩), h⟩
theorem mX1_sizeOfTrader {d : Nat} {a : Nat} {x0 : Int32} {S S' : am_S} {D D' : am_D} {x : Int32} (hn : am_nx S' = am_nx S + 0) (hs : am_sl S' = am_sl S + 0) (h : am_ev (am_sem d) 1 cX1_sizeOfTrader 0 [.ref a, .int x0] [] S D (some (.int x), S', D')) : am_sem (d + 1) 10 [.ref a, .int x0] S D = some (some (.int x), S', D') := am_sem_of mM_10 ⟨by exact Nat.le_of_ble_eq_true rfl, rfl, hn, hs, Or.inr (Or.inl ⟨x, rfl, rfl⟩), h⟩
theorem mX1_markAmongTraders {d : Nat} {a : Nat} {x0 : Int32} {S S' : am_S} {D D' : am_D} {x : Int32} (hn : am_nx S' = am_nx S + 0) (hs : am_sl S' = am_sl S + 0) (h : am_ev (am_sem d) 1 cX1_markAmongTraders 0 [.ref a, .int x0] [] S D (some (.int x), S', D')) : am_sem (d + 1) 11 [.ref a, .int x0] S D = some (some (.int x), S', D') := am_sem_of mM_11 ⟨by exact Nat.le_of_ble_eq_true rfl, rfl, hn, hs, Or.inr (Or.inl ⟨x, rfl, rfl⟩), h⟩
theorem mX1_markOfTrader {d : Nat} {a : Nat} {x0 : Int32} {S S' : am_S} {D D' : am_D} {x : Int32} (hn : am_nx S' = am_nx S + 0) (hs : am_sl S' = am_sl S + 0) (h : am_ev (am_sem d) 1 cX1_markOfTrader 0 [.ref a, .int x0] [] S D (some (.int x), S', D')) : am_sem (d + 1) 12 [.ref a, .int x0] S D = some (some (.int x), S', D') := am_sem_of mM_12 ⟨by exact Nat.le_of_ble_eq_true rfl, rfl, hn, hs, Or.inr (Or.inl ⟨x, rfl, rfl⟩), h⟩
theorem mX1_markOfShip {d : Nat} {a : Nat} {x0 : Int32} {S S' : am_S} {D D' : am_D} {x : Int32} (hn : am_nx S' = am_nx S + 0) (hs : am_sl S' = am_sl S + 0) (h : am_ev (am_sem d) 1 cX1_markOfShip 0 [.ref a, .int x0] [] S D (some (.int x), S', D')) : am_sem (d + 1) 13 [.ref a, .int x0] S D = some (some (.int x), S', D') := am_sem_of mM_13 ⟨by exact Nat.le_of_ble_eq_true rfl, rfl, hn, hs, Or.inr (Or.inl ⟨x, rfl, rfl⟩), h⟩
theorem mX1_markOf {d : Nat} {a : Nat} {x0 : Int32} {S S' : am_S} {D D' : am_D} {x : Int32} (hn : am_nx S' = am_nx S + 0) (hs : am_sl S' = am_sl S + 0) (h : am_ev (am_sem d) 1 cX1_markOf 0 [.ref a, .int x0] [] S D (some (.int x), S', D')) : am_sem (d + 1) 14 [.ref a, .int x0] S D = some (some (.int x), S', D') := am_sem_of mM_14 ⟨by exact Nat.le_of_ble_eq_true rfl, rfl, hn, hs, Or.inr (Or.inl ⟨x, rfl, rfl⟩), h⟩
theorem mX2_init {d : Nat} {a : Nat} {x0 : Nat} {S S' : am_S} {D D' : am_D} (hn : am_nx S' = am_nx S + 5) (hs : am_sl S' = am_sl S + 30) (h : am_ev (am_sem d) 102 cX2_init 0 [.ref a, .ref x0] [] S D (none, S', D')) : am_sem (d + 1) 15 [.ref a, .ref x0] S D = some (none, S', D') := am_sem_of mM_15 ⟨by exact Nat.le_of_ble_eq_true rfl, rfl, hn, hs, Or.inl ⟨rfl, rfl⟩, h⟩
theorem mX2_foretell {d : Nat} {a : Nat} {x0 : Int32} {x1 : Int32} {S S' : am_S} {D D' : am_D} (hn : am_nx S' = am_nx S + 0) (hs : am_sl S' = am_sl S + 0) (h : am_ev (am_sem d) 2 cX2_foretell 0 [.ref a, .int x0, .int x1, .retAddr 0, .retAddr 0, .retAddr 0] [] S D (none, S', D')) : am_sem (d + 1) 16 [.ref a, .int x0, .int x1] S D = some (none, S', D') := am_sem_of mM_16 ⟨by exact Nat.le_of_ble_eq_true rfl, rfl, hn, hs, Or.inl ⟨rfl, rfl⟩, h⟩
theorem mX2_spread {d : Nat} {a : Nat} {x0 : Nat} {x1 : Int32} {S S' : am_S} {D D' : am_D} (hn : am_nx S' = am_nx S + 0) (hs : am_sl S' = am_sl S + 0) (h : am_ev (am_sem d) 2 cX2_spread 0 [.ref a, .ref x0, .int x1, .retAddr 0, .retAddr 0, .retAddr 0, .retAddr 0, .retAddr 0] [] S D (none, S', D')) : am_sem (d + 1) 17 [.ref a, .ref x0, .int x1] S D = some (none, S', D') := am_sem_of mM_17 ⟨by exact Nat.le_of_ble_eq_true rfl, rfl, hn, hs, Or.inl ⟨rfl, rfl⟩, h⟩
theorem mX2_dayCarried {d : Nat} {a : Nat} {x0 : Int32} {x1 : Int32} {x2 : Int32} {S S' : am_S} {D D' : am_D} {x : Int32} (hn : am_nx S' = am_nx S + 0) (hs : am_sl S' = am_sl S + 0) (h : am_ev (am_sem d) 2 cX2_dayCarried 0 [.ref a, .int x0, .int x1, .int x2] [] S D (some (.int x), S', D')) : am_sem (d + 1) 18 [.ref a, .int x0, .int x1, .int x2] S D = some (some (.int x), S', D') := am_sem_of mM_18 ⟨by exact Nat.le_of_ble_eq_true rfl, rfl, hn, hs, Or.inr (Or.inl ⟨x, rfl, rfl⟩), h⟩
theorem mX2_foretellWithout {d : Nat} {a : Nat} {x0 : Int32} {x1 : Int32} {S S' : am_S} {D D' : am_D} (hn : am_nx S' = am_nx S + 0) (hs : am_sl S' = am_sl S + 0) (h : am_ev (am_sem d) 2 cX2_foretellWithout 0 [.ref a, .int x0, .int x1] [] S D (none, S', D')) : am_sem (d + 1) 19 [.ref a, .int x0, .int x1] S D = some (none, S', D') := am_sem_of mM_19 ⟨by exact Nat.le_of_ble_eq_true rfl, rfl, hn, hs, Or.inl ⟨rfl, rfl⟩, h⟩
theorem mX2_foretellKnowing {d : Nat} {a : Nat} {x0 : Int32} {x1 : Int32} {S S' : am_S} {D D' : am_D} (hn : am_nx S' = am_nx S + 0) (hs : am_sl S' = am_sl S + 0) (h : am_ev (am_sem d) 2 cX2_foretellKnowing 0 [.ref a, .int x0, .int x1, .retAddr 0] [] S D (none, S', D')) : am_sem (d + 1) 20 [.ref a, .int x0, .int x1] S D = some (none, S', D') := am_sem_of mM_20 ⟨by exact Nat.le_of_ble_eq_true rfl, rfl, hn, hs, Or.inl ⟨rfl, rfl⟩, h⟩
theorem mX2_daysAhead {d : Nat} {a : Nat} {x0 : Int32} {x1 : Int32} {x2 : Int32} {S S' : am_S} {D D' : am_D} {x : Int32} (hn : am_nx S' = am_nx S + 0) (hs : am_sl S' = am_sl S + 0) (h : am_ev (am_sem d) 2 cX2_daysAhead 0 [.ref a, .int x0, .int x1, .int x2, .retAddr 0] [] S D (some (.int x), S', D')) : am_sem (d + 1) 21 [.ref a, .int x0, .int x1, .int x2] S D = some (some (.int x), S', D') := am_sem_of mM_21 ⟨by exact Nat.le_of_ble_eq_true rfl, rfl, hn, hs, Or.inr (Or.inl ⟨x, rfl, rfl⟩), h⟩
theorem mX2_dayAllSure {d : Nat} {a : Nat} {x0 : Int32} {x1 : Int32} {S S' : am_S} {D D' : am_D} {x : Int32} (hn : am_nx S' = am_nx S + 0) (hs : am_sl S' = am_sl S + 0) (h : am_ev (am_sem d) 2 cX2_dayAllSure 0 [.ref a, .int x0, .int x1, .retAddr 0, .retAddr 0] [] S D (some (.int x), S', D')) : am_sem (d + 1) 22 [.ref a, .int x0, .int x1] S D = some (some (.int x), S', D') := am_sem_of mM_22 ⟨by exact Nat.le_of_ble_eq_true rfl, rfl, hn, hs, Or.inr (Or.inl ⟨x, rfl, rfl⟩), h⟩
theorem mX2_hearFromAll {d : Nat} {a : Nat} {S S' : am_S} {D D' : am_D} (hn : am_nx S' = am_nx S + 0) (hs : am_sl S' = am_sl S + 0) (h : am_ev (am_sem d) 2 cX2_hearFromAll 0 [.ref a, .retAddr 0, .retAddr 0] [] S D (none, S', D')) : am_sem (d + 1) 23 [.ref a] S D = some (none, S', D') := am_sem_of mM_23 ⟨by exact Nat.le_of_ble_eq_true rfl, rfl, hn, hs, Or.inl ⟨rfl, rfl⟩, h⟩
theorem mX2_spreadFrom {d : Nat} {a : Nat} {x0 : Int32} {x1 : Int32} {S S' : am_S} {D D' : am_D} (hn : am_nx S' = am_nx S + 0) (hs : am_sl S' = am_sl S + 0) (h : am_ev (am_sem d) 2 cX2_spreadFrom 0 [.ref a, .int x0, .int x1] [] S D (none, S', D')) : am_sem (d + 1) 24 [.ref a, .int x0, .int x1] S D = some (none, S', D') := am_sem_of mM_24 ⟨by exact Nat.le_of_ble_eq_true rfl, rfl, hn, hs, Or.inl ⟨rfl, rfl⟩, h⟩
theorem mX2_origins {d : Nat} {a : Nat} {x0 : Nat} {x1 : Int32} {x2 : Int32} {S S' : am_S} {D D' : am_D} {x : Int32} (hn : am_nx S' = am_nx S + 0) (hs : am_sl S' = am_sl S + 0) (h : am_ev (am_sem d) 2 cX2_origins 0 [.ref a, .ref x0, .int x1, .int x2, .retAddr 0, .retAddr 0] [] S D (some (.int x), S', D')) : am_sem (d + 1) 25 [.ref a, .ref x0, .int x1, .int x2] S D = some (some (.int x), S', D') := am_sem_of mM_25 ⟨by exact Nat.le_of_ble_eq_true rfl, rfl, hn, hs, Or.inr (Or.inl ⟨x, rfl, rfl⟩), h⟩
theorem mX2_fits {d : Nat} {a : Nat} {x0 : Nat} {x1 : Int32} {x2 : Int32} {S S' : am_S} {D D' : am_D} {x : Int32} (hn : am_nx S' = am_nx S + 0) (hs : am_sl S' = am_sl S + 0) (hb : x = 0 ∨ x = 1) (h : am_ev (am_sem d) 2 cX2_fits 0 [.ref a, .ref x0, .int x1, .int x2, .retAddr 0, .retAddr 0, .retAddr 0] [] S D (some (.int x), S', D')) : am_sem (d + 1) 26 [.ref a, .ref x0, .int x1, .int x2] S D = some (some (.int x), S', D') := am_sem_of mM_26 ⟨by exact Nat.le_of_ble_eq_true rfl, rfl, hn, hs, Or.inr (Or.inr ⟨x, rfl, rfl, hb⟩), h⟩
theorem mX2_weightInTime {d : Nat} {a : Nat} {x0 : Int32} {x1 : Int32} {x2 : Int32} {x3 : Int32} {S S' : am_S} {D D' : am_D} {x : Int32} (hn : am_nx S' = am_nx S + 0) (hs : am_sl S' = am_sl S + 0) (h : am_ev (am_sem d) 2 cX2_weightInTime 0 [.ref a, .int x0, .int x1, .int x2, .int x3, .retAddr 0, .retAddr 0, .retAddr 0] [] S D (some (.int x), S', D')) : am_sem (d + 1) 27 [.ref a, .int x0, .int x1, .int x2, .int x3] S D = some (some (.int x), S', D') := am_sem_of mM_27 ⟨by exact Nat.le_of_ble_eq_true rfl, rfl, hn, hs, Or.inr (Or.inl ⟨x, rfl, rfl⟩), h⟩
theorem mX2_weightOf {d : Nat} {x0 : Int32} {x1 : Int32} {x2 : Int32} {S S' : am_S} {D D' : am_D} {x : Int32} (hn : am_nx S' = am_nx S + 0) (hs : am_sl S' = am_sl S + 0) (h : am_ev (am_sem d) 2 cX2_weightOf 0 [.int x0, .int x1, .int x2, .retAddr 0, .retAddr 0] [] S D (some (.int x), S', D')) : am_sem (d + 1) 28 [.int x0, .int x1, .int x2] S D = some (some (.int x), S', D') := am_sem_of mM_28 ⟨by exact Nat.le_of_ble_eq_true rfl, rfl, hn, hs, Or.inr (Or.inl ⟨x, rfl, rfl⟩), h⟩
theorem mX2_weightOfAll {d : Nat} {a : Nat} {S S' : am_S} {D D' : am_D} {x : Int32} (hn : am_nx S' = am_nx S + 0) (hs : am_sl S' = am_sl S + 0) (h : am_ev (am_sem d) 2 cX2_weightOfAll 0 [.ref a] [] S D (some (.int x), S', D')) : am_sem (d + 1) 29 [.ref a] S D = some (some (.int x), S', D') := am_sem_of mM_29 ⟨by exact Nat.le_of_ble_eq_true rfl, rfl, hn, hs, Or.inr (Or.inl ⟨x, rfl, rfl⟩), h⟩
theorem mX3_init {d : Nat} {a : Nat} {S S' : am_S} {D D' : am_D} (hn : am_nx S' = am_nx S + 11) (hs : am_sl S' = am_sl S + 76) (h : am_ev (am_sem d) 103 cX3_init 0 [.ref a] [] S D (none, S', D')) : am_sem (d + 1) 30 [.ref a] S D = some (none, S', D') := am_sem_of mM_30 ⟨by exact Nat.le_of_ble_eq_true rfl, rfl, hn, hs, Or.inl ⟨rfl, rfl⟩, h⟩
theorem mX3_clear {d : Nat} {a : Nat} {S S' : am_S} {D D' : am_D} (hn : am_nx S' = am_nx S + 0) (hs : am_sl S' = am_sl S + 0) (h : am_ev (am_sem d) 3 cX3_clear 0 [.ref a] [] S D (none, S', D')) : am_sem (d + 1) 31 [.ref a] S D = some (none, S', D') := am_sem_of mM_31 ⟨by exact Nat.le_of_ble_eq_true rfl, rfl, hn, hs, Or.inl ⟨rfl, rfl⟩, h⟩
theorem mX3_addWay {d : Nat} {a : Nat} {x0 : Int32} {x1 : Int32} {x2 : Int32} {S S' : am_S} {D D' : am_D} (hn : am_nx S' = am_nx S + 0) (hs : am_sl S' = am_sl S + 0) (h : am_ev (am_sem d) 3 cX3_addWay 0 [.ref a, .int x0, .int x1, .int x2] [] S D (none, S', D')) : am_sem (d + 1) 32 [.ref a, .int x0, .int x1, .int x2] S D = some (none, S', D') := am_sem_of mM_32 ⟨by exact Nat.le_of_ble_eq_true rfl, rfl, hn, hs, Or.inl ⟨rfl, rfl⟩, h⟩
theorem mX3_addShip {d : Nat} {a : Nat} {x0 : Int32} {x1 : Int32} {S S' : am_S} {D D' : am_D} (hn : am_nx S' = am_nx S + 0) (hs : am_sl S' = am_sl S + 0) (h : am_ev (am_sem d) 3 cX3_addShip 0 [.ref a, .int x0, .int x1] [] S D (none, S', D')) : am_sem (d + 1) 33 [.ref a, .int x0, .int x1] S D = some (none, S', D') := am_sem_of mM_33 ⟨by exact Nat.le_of_ble_eq_true rfl, rfl, hn, hs, Or.inl ⟨rfl, rfl⟩, h⟩
theorem mX3_become {d : Nat} {a : Nat} {x0 : Nat} {S S' : am_S} {D D' : am_D} (hn : am_nx S' = am_nx S + 0) (hs : am_sl S' = am_sl S + 0) (h : am_ev (am_sem d) 3 cX3_become 0 [.ref a, .ref x0] [] S D (none, S', D')) : am_sem (d + 1) 34 [.ref a, .ref x0] S D = some (none, S', D') := am_sem_of mM_34 ⟨by exact Nat.le_of_ble_eq_true rfl, rfl, hn, hs, Or.inl ⟨rfl, rfl⟩, h⟩
theorem mX3_isPort {d : Nat} {a : Nat} {x0 : Int32} {S S' : am_S} {D D' : am_D} {x : Int32} (hn : am_nx S' = am_nx S + 0) (hs : am_sl S' = am_sl S + 0) (hb : x = 0 ∨ x = 1) (h : am_ev (am_sem d) 3 cX3_isPort 0 [.ref a, .int x0] [] S D (some (.int x), S', D')) : am_sem (d + 1) 35 [.ref a, .int x0] S D = some (some (.int x), S', D') := am_sem_of mM_35 ⟨by exact Nat.le_of_ble_eq_true rfl, rfl, hn, hs, Or.inr (Or.inr ⟨x, rfl, rfl, hb⟩), h⟩
theorem mX3_begin {d : Nat} {a : Nat} {x0 : Int32} {S S' : am_S} {D D' : am_D} {x : Int32} (hn : am_nx S' = am_nx S + 0) (hs : am_sl S' = am_sl S + 0) (h : am_ev (am_sem d) 3 cX3_begin 0 [.ref a, .int x0, .retAddr 0] [] S D (some (.int x), S', D')) : am_sem (d + 1) 36 [.ref a, .int x0] S D = some (some (.int x), S', D') := am_sem_of mM_36 ⟨by exact Nat.le_of_ble_eq_true rfl, rfl, hn, hs, Or.inr (Or.inl ⟨x, rfl, rfl⟩), h⟩
theorem mX3_learn {d : Nat} {a : Nat} {x0 : Int32} {x1 : Int32} {S S' : am_S} {D D' : am_D} {x : Int32} (hn : am_nx S' = am_nx S + 0) (hs : am_sl S' = am_sl S + 0) (h : am_ev (am_sem d) 3 cX3_learn 0 [.ref a, .int x0, .int x1] [] S D (some (.int x), S', D')) : am_sem (d + 1) 37 [.ref a, .int x0, .int x1] S D = some (some (.int x), S', D') := am_sem_of mM_37 ⟨by exact Nat.le_of_ble_eq_true rfl, rfl, hn, hs, Or.inr (Or.inl ⟨x, rfl, rfl⟩), h⟩
theorem mX3_knownSince {d : Nat} {a : Nat} {x0 : Int32} {x1 : Int32} {S S' : am_S} {D D' : am_D} {x : Int32} (hn : am_nx S' = am_nx S + 0) (hs : am_sl S' = am_sl S + 0) (h : am_ev (am_sem d) 3 cX3_knownSince 0 [.ref a, .int x0, .int x1] [] S D (some (.int x), S', D')) : am_sem (d + 1) 38 [.ref a, .int x0, .int x1] S D = some (some (.int x), S', D') := am_sem_of mM_38 ⟨by exact Nat.le_of_ble_eq_true rfl, rfl, hn, hs, Or.inr (Or.inl ⟨x, rfl, rfl⟩), h⟩
theorem mX3_tellShipsInPorts {d : Nat} {a : Nat} {S S' : am_S} {D D' : am_D} (hn : am_nx S' = am_nx S + 0) (hs : am_sl S' = am_sl S + 0) (h : am_ev (am_sem d) 3 cX3_tellShipsInPorts 0 [.ref a, .retAddr 0] [] S D (none, S', D')) : am_sem (d + 1) 39 [.ref a] S D = some (none, S', D') := am_sem_of mM_39 ⟨by exact Nat.le_of_ble_eq_true rfl, rfl, hn, hs, Or.inl ⟨rfl, rfl⟩, h⟩
theorem mX3_isAtSea {d : Nat} {a : Nat} {x0 : Int32} {S S' : am_S} {D D' : am_D} {x : Int32} (hn : am_nx S' = am_nx S + 0) (hs : am_sl S' = am_sl S + 0) (hb : x = 0 ∨ x = 1) (h : am_ev (am_sem d) 3 cX3_isAtSea 0 [.ref a, .int x0] [] S D (some (.int x), S', D')) : am_sem (d + 1) 40 [.ref a, .int x0] S D = some (some (.int x), S', D') := am_sem_of mM_40 ⟨by exact Nat.le_of_ble_eq_true rfl, rfl, hn, hs, Or.inr (Or.inr ⟨x, rfl, rfl, hb⟩), h⟩
theorem mX3_newsIn {d : Nat} {a : Nat} {x0 : Int32} {S S' : am_S} {D D' : am_D} {x : Int32} (hn : am_nx S' = am_nx S + 0) (hs : am_sl S' = am_sl S + 0) (h : am_ev (am_sem d) 3 cX3_newsIn 0 [.ref a, .int x0, .retAddr 0, .retAddr 0] [] S D (some (.int x), S', D')) : am_sem (d + 1) 41 [.ref a, .int x0] S D = some (some (.int x), S', D') := am_sem_of mM_41 ⟨by exact Nat.le_of_ble_eq_true rfl, rfl, hn, hs, Or.inr (Or.inl ⟨x, rfl, rfl⟩), h⟩
theorem mX3_isShip {d : Nat} {a : Nat} {x0 : Int32} {S S' : am_S} {D D' : am_D} {x : Int32} (hn : am_nx S' = am_nx S + 0) (hs : am_sl S' = am_sl S + 0) (hb : x = 0 ∨ x = 1) (h : am_ev (am_sem d) 3 cX3_isShip 0 [.ref a, .int x0] [] S D (some (.int x), S', D')) : am_sem (d + 1) 42 [.ref a, .int x0] S D = some (some (.int x), S', D') := am_sem_of mM_42 ⟨by exact Nat.le_of_ble_eq_true rfl, rfl, hn, hs, Or.inr (Or.inr ⟨x, rfl, rfl, hb⟩), h⟩
theorem mX3_isWay {d : Nat} {a : Nat} {x0 : Int32} {S S' : am_S} {D D' : am_D} {x : Int32} (hn : am_nx S' = am_nx S + 0) (hs : am_sl S' = am_sl S + 0) (hb : x = 0 ∨ x = 1) (h : am_ev (am_sem d) 3 cX3_isWay 0 [.ref a, .int x0] [] S D (some (.int x), S', D')) : am_sem (d + 1) 43 [.ref a, .int x0] S D = some (some (.int x), S', D') := am_sem_of mM_43 ⟨by exact Nat.le_of_ble_eq_true rfl, rfl, hn, hs, Or.inr (Or.inr ⟨x, rfl, rfl, hb⟩), h⟩
theorem mX3_canLeave {d : Nat} {a : Nat} {x0 : Int32} {x1 : Int32} {S S' : am_S} {D D' : am_D} {x : Int32} (hn : am_nx S' = am_nx S + 0) (hs : am_sl S' = am_sl S + 0) (hb : x = 0 ∨ x = 1) (h : am_ev (am_sem d) 3 cX3_canLeave 0 [.ref a, .int x0, .int x1] [] S D (some (.int x), S', D')) : am_sem (d + 1) 44 [.ref a, .int x0, .int x1] S D = some (some (.int x), S', D') := am_sem_of mM_44 ⟨by exact Nat.le_of_ble_eq_true rfl, rfl, hn, hs, Or.inr (Or.inr ⟨x, rfl, rfl, hb⟩), h⟩
theorem mX3_leave {d : Nat} {a : Nat} {x0 : Int32} {x1 : Int32} {S S' : am_S} {D D' : am_D} (hn : am_nx S' = am_nx S + 0) (hs : am_sl S' = am_sl S + 0) (h : am_ev (am_sem d) 3 cX3_leave 0 [.ref a, .int x0, .int x1] [] S D (none, S', D')) : am_sem (d + 1) 45 [.ref a, .int x0, .int x1] S D = some (none, S', D') := am_sem_of mM_45 ⟨by exact Nat.le_of_ble_eq_true rfl, rfl, hn, hs, Or.inl ⟨rfl, rfl⟩, h⟩
theorem mX3_daysOn {d : Nat} {a : Nat} {x0 : Int32} {x1 : Int32} {S S' : am_S} {D D' : am_D} {x : Int32} (hn : am_nx S' = am_nx S + 0) (hs : am_sl S' = am_sl S + 0) (h : am_ev (am_sem d) 3 cX3_daysOn 0 [.ref a, .int x0, .int x1, .retAddr 0] [] S D (some (.int x), S', D')) : am_sem (d + 1) 46 [.ref a, .int x0, .int x1] S D = some (some (.int x), S', D') := am_sem_of mM_46 ⟨by exact Nat.le_of_ble_eq_true rfl, rfl, hn, hs, Or.inr (Or.inl ⟨x, rfl, rfl⟩), h⟩
theorem mX3_isNone {d : Nat} {a : Nat} {S S' : am_S} {D D' : am_D} {x : Int32} (hn : am_nx S' = am_nx S + 0) (hs : am_sl S' = am_sl S + 0) (hb : x = 0 ∨ x = 1) (h : am_ev (am_sem d) 3 cX3_isNone 0 [.ref a] [] S D (some (.int x), S', D')) : am_sem (d + 1) 47 [.ref a] S D = some (some (.int x), S', D') := am_sem_of mM_47 ⟨by exact Nat.le_of_ble_eq_true rfl, rfl, hn, hs, Or.inr (Or.inr ⟨x, rfl, rfl, hb⟩), h⟩
theorem mX3_passDay {d : Nat} {a : Nat} {S S' : am_S} {D D' : am_D} {x : Int32} (hn : am_nx S' = am_nx S + 0) (hs : am_sl S' = am_sl S + 0) (h : am_ev (am_sem d) 3 cX3_passDay 0 [.ref a, .retAddr 0, .retAddr 0] [] S D (some (.int x), S', D')) : am_sem (d + 1) 48 [.ref a] S D = some (some (.int x), S', D') := am_sem_of mM_48 ⟨by exact Nat.le_of_ble_eq_true rfl, rfl, hn, hs, Or.inr (Or.inl ⟨x, rfl, rfl⟩), h⟩
theorem mX3_signal {d : Nat} {a : Nat} {x0 : Int32} {x1 : Int32} {x2 : Int32} {S S' : am_S} {D D' : am_D} {x : Int32} (hn : am_nx S' = am_nx S + 0) (hs : am_sl S' = am_sl S + 0) (h : am_ev (am_sem d) 3 cX3_signal 0 [.ref a, .int x0, .int x1, .int x2, .retAddr 0, .retAddr 0, .retAddr 0] [] S D (some (.int x), S', D')) : am_sem (d + 1) 49 [.ref a, .int x0, .int x1, .int x2] S D = some (some (.int x), S', D') := am_sem_of mM_49 ⟨by exact Nat.le_of_ble_eq_true rfl, rfl, hn, hs, Or.inr (Or.inl ⟨x, rfl, rfl⟩), h⟩
theorem mX3_tellPort {d : Nat} {a : Nat} {x0 : Int32} {S S' : am_S} {D D' : am_D} {x : Int32} (hn : am_nx S' = am_nx S + 0) (hs : am_sl S' = am_sl S + 0) (h : am_ev (am_sem d) 3 cX3_tellPort 0 [.ref a, .int x0, .retAddr 0, .retAddr 0] [] S D (some (.int x), S', D')) : am_sem (d + 1) 50 [.ref a, .int x0] S D = some (some (.int x), S', D') := am_sem_of mM_50 ⟨by exact Nat.le_of_ble_eq_true rfl, rfl, hn, hs, Or.inr (Or.inl ⟨x, rfl, rfl⟩), h⟩
theorem mX3_isTold {d : Nat} {a : Nat} {x0 : Int32} {x1 : Int32} {S S' : am_S} {D D' : am_D} {x : Int32} (hn : am_nx S' = am_nx S + 0) (hs : am_sl S' = am_sl S + 0) (hb : x = 0 ∨ x = 1) (h : am_ev (am_sem d) 3 cX3_isTold 0 [.ref a, .int x0, .int x1] [] S D (some (.int x), S', D')) : am_sem (d + 1) 51 [.ref a, .int x0, .int x1] S D = some (some (.int x), S', D') := am_sem_of mM_51 ⟨by exact Nat.le_of_ble_eq_true rfl, rfl, hn, hs, Or.inr (Or.inr ⟨x, rfl, rfl, hb⟩), h⟩
theorem mX3_shipsIn {d : Nat} {a : Nat} {x0 : Int32} {S S' : am_S} {D D' : am_D} {x : Int32} (hn : am_nx S' = am_nx S + 0) (hs : am_sl S' = am_sl S + 0) (h : am_ev (am_sem d) 3 cX3_shipsIn 0 [.ref a, .int x0, .retAddr 0, .retAddr 0] [] S D (some (.int x), S', D')) : am_sem (d + 1) 52 [.ref a, .int x0] S D = some (some (.int x), S', D') := am_sem_of mM_52 ⟨by exact Nat.le_of_ble_eq_true rfl, rfl, hn, hs, Or.inr (Or.inl ⟨x, rfl, rfl⟩), h⟩
theorem mX3_isNews {d : Nat} {a : Nat} {x0 : Int32} {S S' : am_S} {D D' : am_D} {x : Int32} (hn : am_nx S' = am_nx S + 0) (hs : am_sl S' = am_sl S + 0) (hb : x = 0 ∨ x = 1) (h : am_ev (am_sem d) 3 cX3_isNews 0 [.ref a, .int x0] [] S D (some (.int x), S', D')) : am_sem (d + 1) 53 [.ref a, .int x0] S D = some (some (.int x), S', D') := am_sem_of mM_53 ⟨by exact Nat.le_of_ble_eq_true rfl, rfl, hn, hs, Or.inr (Or.inr ⟨x, rfl, rfl, hb⟩), h⟩
theorem mX3_shipsAtSea {d : Nat} {a : Nat} {S S' : am_S} {D D' : am_D} {x : Int32} (hn : am_nx S' = am_nx S + 0) (hs : am_sl S' = am_sl S + 0) (h : am_ev (am_sem d) 3 cX3_shipsAtSea 0 [.ref a, .retAddr 0, .retAddr 0] [] S D (some (.int x), S', D')) : am_sem (d + 1) 54 [.ref a] S D = some (some (.int x), S', D') := am_sem_of mM_54 ⟨by exact Nat.le_of_ble_eq_true rfl, rfl, hn, hs, Or.inr (Or.inl ⟨x, rfl, rfl⟩), h⟩
theorem mX4_init {d : Nat} {a : Nat} {x0 : Nat} {S S' : am_S} {D D' : am_D} (hn : am_nx S' = am_nx S + 12) (hs : am_sl S' = am_sl S + 92) (h : am_ev (am_sem d) 104 cX4_init 0 [.ref a, .ref x0] [] S D (none, S', D')) : am_sem (d + 1) 55 [.ref a, .ref x0] S D = some (none, S', D') := am_sem_of mM_55 ⟨by exact Nat.le_of_ble_eq_true rfl, rfl, hn, hs, Or.inl ⟨rfl, rfl⟩, h⟩
theorem mX4_readWhole {d : Nat} {a : Nat} {S S' : am_S} {D D' : am_D} {x : Int32} (hn : am_nx S' = am_nx S + 0) (hs : am_sl S' = am_sl S + 0) (hb : x = 0 ∨ x = 1) (h : am_ev (am_sem d) 4 cX4_readWhole 0 [.ref a] [] S D (some (.int x), S', D')) : am_sem (d + 1) 56 [.ref a] S D = some (some (.int x), S', D') := am_sem_of mM_56 ⟨by exact Nat.le_of_ble_eq_true rfl, rfl, hn, hs, Or.inr (Or.inr ⟨x, rfl, rfl, hb⟩), h⟩
theorem mX4_readPorts {d : Nat} {a : Nat} {S S' : am_S} {D D' : am_D} {x : Int32} (hn : am_nx S' = am_nx S + 0) (hs : am_sl S' = am_sl S + 0) (hb : x = 0 ∨ x = 1) (h : am_ev (am_sem d) 4 cX4_readPorts 0 [.ref a, .retAddr 0] [] S D (some (.int x), S', D')) : am_sem (d + 1) 57 [.ref a] S D = some (some (.int x), S', D') := am_sem_of mM_57 ⟨by exact Nat.le_of_ble_eq_true rfl, rfl, hn, hs, Or.inr (Or.inr ⟨x, rfl, rfl, hb⟩), h⟩
theorem mX4_expect {d : Nat} {a : Nat} {x0 : Int32} {S S' : am_S} {D D' : am_D} {x : Int32} (hn : am_nx S' = am_nx S + 0) (hs : am_sl S' = am_sl S + 0) (hb : x = 0 ∨ x = 1) (h : am_ev (am_sem d) 4 cX4_expect 0 [.ref a, .int x0] [] S D (some (.int x), S', D')) : am_sem (d + 1) 58 [.ref a, .int x0] S D = some (some (.int x), S', D') := am_sem_of mM_58 ⟨by exact Nat.le_of_ble_eq_true rfl, rfl, hn, hs, Or.inr (Or.inr ⟨x, rfl, rfl, hb⟩), h⟩
theorem mX4_refuse {d : Nat} {a : Nat} {x0 : Int32} {S S' : am_S} {D D' : am_D} {x : Int32} (hn : am_nx S' = am_nx S + 0) (hs : am_sl S' = am_sl S + 0) (hb : x = 0 ∨ x = 1) (h : am_ev (am_sem d) 4 cX4_refuse 0 [.ref a, .int x0] [] S D (some (.int x), S', D')) : am_sem (d + 1) 59 [.ref a, .int x0] S D = some (some (.int x), S', D') := am_sem_of mM_59 ⟨by exact Nat.le_of_ble_eq_true rfl, rfl, hn, hs, Or.inr (Or.inr ⟨x, rfl, rfl, hb⟩), h⟩
theorem mX4_number {d : Nat} {a : Nat} {x0 : Int32} {x1 : Int32} {x2 : Int32} {S S' : am_S} {D D' : am_D} {x : Int32} (hn : am_nx S' = am_nx S + 0) (hs : am_sl S' = am_sl S + 0) (h : am_ev (am_sem d) 4 cX4_number 0 [.ref a, .int x0, .int x1, .int x2, .retAddr 0] [] S D (some (.int x), S', D')) : am_sem (d + 1) 60 [.ref a, .int x0, .int x1, .int x2] S D = some (some (.int x), S', D') := am_sem_of mM_60 ⟨by exact Nat.le_of_ble_eq_true rfl, rfl, hn, hs, Or.inr (Or.inl ⟨x, rfl, rfl⟩), h⟩
theorem mX4_readWays {d : Nat} {a : Nat} {S S' : am_S} {D D' : am_D} {x : Int32} (hn : am_nx S' = am_nx S + 0) (hs : am_sl S' = am_sl S + 0) (hb : x = 0 ∨ x = 1) (h : am_ev (am_sem d) 4 cX4_readWays 0 [.ref a, .retAddr 0] [] S D (some (.int x), S', D')) : am_sem (d + 1) 61 [.ref a] S D = some (some (.int x), S', D') := am_sem_of mM_61 ⟨by exact Nat.le_of_ble_eq_true rfl, rfl, hn, hs, Or.inr (Or.inr ⟨x, rfl, rfl, hb⟩), h⟩
theorem mX4_readWay {d : Nat} {a : Nat} {S S' : am_S} {D D' : am_D} {x : Int32} (hn : am_nx S' = am_nx S + 0) (hs : am_sl S' = am_sl S + 0) (hb : x = 0 ∨ x = 1) (h : am_ev (am_sem d) 4 cX4_readWay 0 [.ref a, .retAddr 0, .retAddr 0, .retAddr 0] [] S D (some (.int x), S', D')) : am_sem (d + 1) 62 [.ref a] S D = some (some (.int x), S', D') := am_sem_of mM_62 ⟨by exact Nat.le_of_ble_eq_true rfl, rfl, hn, hs, Or.inr (Or.inr ⟨x, rfl, rfl, hb⟩), h⟩
theorem mX4_readShips {d : Nat} {a : Nat} {S S' : am_S} {D D' : am_D} {x : Int32} (hn : am_nx S' = am_nx S + 0) (hs : am_sl S' = am_sl S + 0) (hb : x = 0 ∨ x = 1) (h : am_ev (am_sem d) 4 cX4_readShips 0 [.ref a, .retAddr 0] [] S D (some (.int x), S', D')) : am_sem (d + 1) 63 [.ref a] S D = some (some (.int x), S', D') := am_sem_of mM_63 ⟨by exact Nat.le_of_ble_eq_true rfl, rfl, hn, hs, Or.inr (Or.inr ⟨x, rfl, rfl, hb⟩), h⟩
theorem mX4_kindOf {d : Nat} {x0 : Int32} {S S' : am_S} {D D' : am_D} {x : Int32} (hn : am_nx S' = am_nx S + 0) (hs : am_sl S' = am_sl S + 0) (h : am_ev (am_sem d) 4 cX4_kindOf 0 [.int x0] [] S D (some (.int x), S', D')) : am_sem (d + 1) 64 [.int x0] S D = some (some (.int x), S', D') := am_sem_of mM_64 ⟨by exact Nat.le_of_ble_eq_true rfl, rfl, hn, hs, Or.inr (Or.inl ⟨x, rfl, rfl⟩), h⟩
theorem mX4_readShip {d : Nat} {a : Nat} {S S' : am_S} {D D' : am_D} {x : Int32} (hn : am_nx S' = am_nx S + 0) (hs : am_sl S' = am_sl S + 0) (hb : x = 0 ∨ x = 1) (h : am_ev (am_sem d) 4 cX4_readShip 0 [.ref a, .retAddr 0, .retAddr 0] [] S D (some (.int x), S', D')) : am_sem (d + 1) 65 [.ref a] S D = some (some (.int x), S', D') := am_sem_of mM_65 ⟨by exact Nat.le_of_ble_eq_true rfl, rfl, hn, hs, Or.inr (Or.inr ⟨x, rfl, rfl, hb⟩), h⟩
theorem mX5_init {d : Nat} {a : Nat} {x0 : Nat} {x1 : Nat} {S S' : am_S} {D D' : am_D} (hn : am_nx S' = am_nx S + 1) (hs : am_sl S' = am_sl S + 384) (h : am_ev (am_sem d) 105 cX5_init 0 [.ref a, .ref x0, .ref x1] [] S D (none, S', D')) : am_sem (d + 1) 66 [.ref a, .ref x0, .ref x1] S D = some (none, S', D') := am_sem_of mM_66 ⟨by exact Nat.le_of_ble_eq_true rfl, rfl, hn, hs, Or.inl ⟨rfl, rfl⟩, h⟩
theorem mX5_seek {d : Nat} {a : Nat} {x0 : Int32} {x1 : Int32} {x2 : Int32} {S S' : am_S} {D D' : am_D} (hn : am_nx S' = am_nx S + 0) (hs : am_sl S' = am_sl S + 0) (h : am_ev (am_sem d) 5 cX5_seek 0 [.ref a, .int x0, .int x1, .int x2, .retAddr 0] [] S D (none, S', D')) : am_sem (d + 1) 67 [.ref a, .int x0, .int x1, .int x2] S D = some (none, S', D') := am_sem_of mM_67 ⟨by exact Nat.le_of_ble_eq_true rfl, rfl, hn, hs, Or.inl ⟨rfl, rfl⟩, h⟩
theorem mX5_come {d : Nat} {a : Nat} {x0 : Int32} {x1 : Int32} {x2 : Int32} {S S' : am_S} {D D' : am_D} (hn : am_nx S' = am_nx S + 0) (hs : am_sl S' = am_sl S + 0) (h : am_ev (am_sem d) 5 cX5_come 0 [.ref a, .int x0, .int x1, .int x2, .retAddr 0, .retAddr 0] [] S D (none, S', D')) : am_sem (d + 1) 68 [.ref a, .int x0, .int x1, .int x2] S D = some (none, S', D') := am_sem_of mM_68 ⟨by exact Nat.le_of_ble_eq_true rfl, rfl, hn, hs, Or.inl ⟨rfl, rfl⟩, h⟩
theorem mX5_settle {d : Nat} {a : Nat} {x0 : Int32} {x1 : Int32} {S S' : am_S} {D D' : am_D} (hn : am_nx S' = am_nx S + 0) (hs : am_sl S' = am_sl S + 0) (h : am_ev (am_sem d) 5 cX5_settle 0 [.ref a, .int x0, .int x1, .retAddr 0, .retAddr 0, .retAddr 0, .retAddr 0, .retAddr 0] [] S D (none, S', D')) : am_sem (d + 1) 69 [.ref a, .int x0, .int x1] S D = some (none, S', D') := am_sem_of mM_69 ⟨by exact Nat.le_of_ble_eq_true rfl, rfl, hn, hs, Or.inl ⟨rfl, rfl⟩, h⟩
theorem mX5_judge {d : Nat} {a : Nat} {x0 : Int32} {S S' : am_S} {D D' : am_D} (hn : am_nx S' = am_nx S + 0) (hs : am_sl S' = am_sl S + 0) (h : am_ev (am_sem d) 5 cX5_judge 0 [.ref a, .int x0, .retAddr 0, .retAddr 0, .retAddr 0] [] S D (none, S', D')) : am_sem (d + 1) 70 [.ref a, .int x0] S D = some (none, S', D') := am_sem_of mM_70 ⟨by exact Nat.le_of_ble_eq_true rfl, rfl, hn, hs, Or.inl ⟨rfl, rfl⟩, h⟩
theorem mX5_judgeOne {d : Nat} {a : Nat} {x0 : Int32} {x1 : Int32} {S S' : am_S} {D D' : am_D} (hn : am_nx S' = am_nx S + 0) (hs : am_sl S' = am_sl S + 0) (h : am_ev (am_sem d) 5 cX5_judgeOne 0 [.ref a, .int x0, .int x1] [] S D (none, S', D')) : am_sem (d + 1) 71 [.ref a, .int x0, .int x1] S D = some (none, S', D') := am_sem_of mM_71 ⟨by exact Nat.le_of_ble_eq_true rfl, rfl, hn, hs, Or.inl ⟨rfl, rfl⟩, h⟩
theorem mX6_init {d : Nat} {a : Nat} {S S' : am_S} {D D' : am_D} (hn : am_nx S' = am_nx S + 11) (hs : am_sl S' = am_sl S + 344) (h : am_ev (am_sem d) 106 cX6_init 0 [.ref a] [] S D (none, S', D')) : am_sem (d + 1) 72 [.ref a] S D = some (none, S', D') := am_sem_of mM_72 ⟨by exact Nat.le_of_ble_eq_true rfl, rfl, hn, hs, Or.inl ⟨rfl, rfl⟩, h⟩
theorem mX6_lay {d : Nat} {a : Nat} {x0 : Int32} {x1 : Int32} {x2 : Int32} {S S' : am_S} {D D' : am_D} (hn : am_nx S' = am_nx S + 0) (hs : am_sl S' = am_sl S + 0) (h : am_ev (am_sem d) 6 cX6_lay 0 [.ref a, .int x0, .int x1, .int x2] [] S D (none, S', D')) : am_sem (d + 1) 73 [.ref a, .int x0, .int x1, .int x2] S D = some (none, S', D') := am_sem_of mM_73 ⟨by exact Nat.le_of_ble_eq_true rfl, rfl, hn, hs, Or.inl ⟨rfl, rfl⟩, h⟩
theorem mX6_findingAt {d : Nat} {a : Nat} {x0 : Int32} {x1 : Int32} {x2 : Int32} {S S' : am_S} {D D' : am_D} {x : Int32} (hn : am_nx S' = am_nx S + 0) (hs : am_sl S' = am_sl S + 0) (h : am_ev (am_sem d) 6 cX6_findingAt 0 [.ref a, .int x0, .int x1, .int x2] [] S D (some (.int x), S', D')) : am_sem (d + 1) 74 [.ref a, .int x0, .int x1, .int x2] S D = some (some (.int x), S', D') := am_sem_of mM_74 ⟨by exact Nat.le_of_ble_eq_true rfl, rfl, hn, hs, Or.inr (Or.inl ⟨x, rfl, rfl⟩), h⟩
theorem mX6_isMissing {d : Nat} {a : Nat} {x0 : Int32} {S S' : am_S} {D D' : am_D} {x : Int32} (hn : am_nx S' = am_nx S + 0) (hs : am_sl S' = am_sl S + 0) (hb : x = 0 ∨ x = 1) (h : am_ev (am_sem d) 6 cX6_isMissing 0 [.ref a, .int x0] [] S D (some (.int x), S', D')) : am_sem (d + 1) 75 [.ref a, .int x0] S D = some (some (.int x), S', D') := am_sem_of mM_75 ⟨by exact Nat.le_of_ble_eq_true rfl, rfl, hn, hs, Or.inr (Or.inr ⟨x, rfl, rfl, hb⟩), h⟩
theorem mX6_hasPlaces {d : Nat} {a : Nat} {x0 : Int32} {x1 : Int32} {x2 : Int32} {S S' : am_S} {D D' : am_D} {x : Int32} (hn : am_nx S' = am_nx S + 0) (hs : am_sl S' = am_sl S + 0) (hb : x = 0 ∨ x = 1) (h : am_ev (am_sem d) 6 cX6_hasPlaces 0 [.ref a, .int x0, .int x1, .int x2] [] S D (some (.int x), S', D')) : am_sem (d + 1) 76 [.ref a, .int x0, .int x1, .int x2] S D = some (some (.int x), S', D') := am_sem_of mM_76 ⟨by exact Nat.le_of_ble_eq_true rfl, rfl, hn, hs, Or.inr (Or.inr ⟨x, rfl, rfl, hb⟩), h⟩
theorem mX6_put {d : Nat} {a : Nat} {x0 : Int32} {x1 : Int32} {x2 : Int32} {S S' : am_S} {D D' : am_D} {x : Int32} (hn : am_nx S' = am_nx S + 0) (hs : am_sl S' = am_sl S + 0) (h : am_ev (am_sem d) 6 cX6_put 0 [.ref a, .int x0, .int x1, .int x2, .retAddr 0] [] S D (some (.int x), S', D')) : am_sem (d + 1) 77 [.ref a, .int x0, .int x1, .int x2] S D = some (some (.int x), S', D') := am_sem_of mM_77 ⟨by exact Nat.le_of_ble_eq_true rfl, rfl, hn, hs, Or.inr (Or.inl ⟨x, rfl, rfl⟩), h⟩
theorem mX6_findingOfMove {d : Nat} {a : Nat} {x0 : Int32} {x1 : Int32} {x2 : Int32} {x3 : Int32} {x4 : Int32} {S S' : am_S} {D D' : am_D} {x : Int32} (hn : am_nx S' = am_nx S + 0) (hs : am_sl S' = am_sl S + 0) (h : am_ev (am_sem d) 6 cX6_findingOfMove 0 [.ref a, .int x0, .int x1, .int x2, .int x3, .int x4] [] S D (some (.int x), S', D')) : am_sem (d + 1) 78 [.ref a, .int x0, .int x1, .int x2, .int x3, .int x4] S D = some (some (.int x), S', D') := am_sem_of mM_78 ⟨by exact Nat.le_of_ble_eq_true rfl, rfl, hn, hs, Or.inr (Or.inl ⟨x, rfl, rfl⟩), h⟩
theorem mX6_present {d : Nat} {a : Nat} {S S' : am_S} {D D' : am_D} {x : Int32} (hn : am_nx S' = am_nx S + 0) (hs : am_sl S' = am_sl S + 0) (h : am_ev (am_sem d) 6 cX6_present 0 [.ref a, .retAddr 0, .retAddr 0] [] S D (some (.int x), S', D')) : am_sem (d + 1) 79 [.ref a] S D = some (some (.int x), S', D') := am_sem_of mM_79 ⟨by exact Nat.le_of_ble_eq_true rfl, rfl, hn, hs, Or.inr (Or.inl ⟨x, rfl, rfl⟩), h⟩
theorem mX7_init {d : Nat} {a : Nat} {S S' : am_S} {D D' : am_D} (hn : am_nx S' = am_nx S + 1) (hs : am_sl S' = am_sl S + 120) (h : am_ev (am_sem d) 107 cX7_init 0 [.ref a] [] S D (none, S', D')) : am_sem (d + 1) 80 [.ref a] S D = some (none, S', D') := am_sem_of mM_80 ⟨by exact Nat.le_of_ble_eq_true rfl, rfl, hn, hs, Or.inl ⟨rfl, rfl⟩, h⟩
theorem mX7_rewind {d : Nat} {a : Nat} {S S' : am_S} {D D' : am_D} (hn : am_nx S' = am_nx S + 0) (hs : am_sl S' = am_sl S + 0) (h : am_ev (am_sem d) 7 cX7_rewind 0 [.ref a] [] S D (none, S', D')) : am_sem (d + 1) 81 [.ref a] S D = some (none, S', D') := am_sem_of mM_81 ⟨by exact Nat.le_of_ble_eq_true rfl, rfl, hn, hs, Or.inl ⟨rfl, rfl⟩, h⟩
theorem mX7_step {d : Nat} {a : Nat} {S S' : am_S} {D D' : am_D} (hn : am_nx S' = am_nx S + 0) (hs : am_sl S' = am_sl S + 0) (h : am_ev (am_sem d) 7 cX7_step 0 [.ref a] [] S D (none, S', D')) : am_sem (d + 1) 82 [.ref a] S D = some (none, S', D') := am_sem_of mM_82 ⟨by exact Nat.le_of_ble_eq_true rfl, rfl, hn, hs, Or.inl ⟨rfl, rfl⟩, h⟩
theorem mX7_isFigure {d : Nat} {x0 : Int32} {S S' : am_S} {D D' : am_D} {x : Int32} (hn : am_nx S' = am_nx S + 0) (hs : am_sl S' = am_sl S + 0) (hb : x = 0 ∨ x = 1) (h : am_ev (am_sem d) 7 cX7_isFigure 0 [.int x0] [] S D (some (.int x), S', D')) : am_sem (d + 1) 83 [.int x0] S D = some (some (.int x), S', D') := am_sem_of mM_83 ⟨by exact Nat.le_of_ble_eq_true rfl, rfl, hn, hs, Or.inr (Or.inr ⟨x, rfl, rfl, hb⟩), h⟩
theorem mX8_init {d : Nat} {a : Nat} {x0 : Nat} {S S' : am_S} {D D' : am_D} (hn : am_nx S' = am_nx S + 12) (hs : am_sl S' = am_sl S + 92) (h : am_ev (am_sem d) 108 cX8_init 0 [.ref a, .ref x0] [] S D (none, S', D')) : am_sem (d + 1) 84 [.ref a, .ref x0] S D = some (none, S', D') := am_sem_of mM_84 ⟨by exact Nat.le_of_ble_eq_true rfl, rfl, hn, hs, Or.inl ⟨rfl, rfl⟩, h⟩
theorem mX8_follow {d : Nat} {a : Nat} {x0 : Int32} {x1 : Nat} {x2 : Int32} {x3 : Int32} {S S' : am_S} {D D' : am_D} (hn : am_nx S' = am_nx S + 0) (hs : am_sl S' = am_sl S + 0) (h : am_ev (am_sem d) 8 cX8_follow 0 [.ref a, .int x0, .ref x1, .int x2, .int x3, .retAddr 0, .retAddr 0, .retAddr 0] [] S D (none, S', D')) : am_sem (d + 1) 85 [.ref a, .int x0, .ref x1, .int x2, .int x3] S D = some (none, S', D') := am_sem_of mM_85 ⟨by exact Nat.le_of_ble_eq_true rfl, rfl, hn, hs, Or.inl ⟨rfl, rfl⟩, h⟩
theorem mX8_comeIn {d : Nat} {a : Nat} {x0 : Int32} {S S' : am_S} {D D' : am_D} (hn : am_nx S' = am_nx S + 0) (hs : am_sl S' = am_sl S + 0) (h : am_ev (am_sem d) 8 cX8_comeIn 0 [.ref a, .int x0, .retAddr 0] [] S D (none, S', D')) : am_sem (d + 1) 86 [.ref a, .int x0] S D = some (none, S', D') := am_sem_of mM_86 ⟨by exact Nat.le_of_ble_eq_true rfl, rfl, hn, hs, Or.inl ⟨rfl, rfl⟩, h⟩
theorem mX8_setOut {d : Nat} {a : Nat} {x0 : Int32} {x1 : Int32} {S S' : am_S} {D D' : am_D} {x : Int32} (hn : am_nx S' = am_nx S + 0) (hs : am_sl S' = am_sl S + 0) (hb : x = 0 ∨ x = 1) (h : am_ev (am_sem d) 8 cX8_setOut 0 [.ref a, .int x0, .int x1] [] S D (some (.int x), S', D')) : am_sem (d + 1) 87 [.ref a, .int x0, .int x1] S D = some (some (.int x), S', D') := am_sem_of mM_87 ⟨by exact Nat.le_of_ble_eq_true rfl, rfl, hn, hs, Or.inr (Or.inr ⟨x, rfl, rfl, hb⟩), h⟩
theorem mX8_outcome {d : Nat} {a : Nat} {x0 : Int32} {x1 : Int32} {S S' : am_S} {D D' : am_D} {x : Int32} (hn : am_nx S' = am_nx S + 0) (hs : am_sl S' = am_sl S + 0) (h : am_ev (am_sem d) 8 cX8_outcome 0 [.ref a, .int x0, .int x1] [] S D (some (.int x), S', D')) : am_sem (d + 1) 88 [.ref a, .int x0, .int x1] S D = some (some (.int x), S', D') := am_sem_of mM_88 ⟨by exact Nat.le_of_ble_eq_true rfl, rfl, hn, hs, Or.inr (Or.inl ⟨x, rfl, rfl⟩), h⟩
theorem mX9_init {d : Nat} {a : Nat} {S S' : am_S} {D D' : am_D} (hn : am_nx S' = am_nx S + 377) (hs : am_sl S' = am_sl S + 3621) (h : am_ev (am_sem d) 109 cX9_init 0 [.ref a, .retAddr 0] [] S D (none, S', D')) : am_sem (d + 1) 89 [.ref a] S D = some (none, S', D') := am_sem_of mM_89 ⟨by exact Nat.le_of_ble_eq_true rfl, rfl, hn, hs, Or.inl ⟨rfl, rfl⟩, h⟩
theorem mX9_row {d : Nat} {a : Nat} {x0 : Int32} {x1 : Int32} {x2 : Int32} {S S' : am_S} {D D' : am_D} {x : Int32} (hn : am_nx S' = am_nx S + 0) (hs : am_sl S' = am_sl S + 0) (h : am_ev (am_sem d) 9 cX9_row 0 [.ref a, .int x0, .int x1, .int x2] [] S D (some (.int x), S', D')) : am_sem (d + 1) 90 [.ref a, .int x0, .int x1, .int x2] S D = some (some (.int x), S', D') := am_sem_of mM_90 ⟨by exact Nat.le_of_ble_eq_true rfl, rfl, hn, hs, Or.inr (Or.inl ⟨x, rfl, rfl⟩), h⟩
theorem mX9_isRow {d : Nat} {x0 : Int32} {S S' : am_S} {D D' : am_D} {x : Int32} (hn : am_nx S' = am_nx S + 0) (hs : am_sl S' = am_sl S + 0) (hb : x = 0 ∨ x = 1) (h : am_ev (am_sem d) 9 cX9_isRow 0 [.int x0] [] S D (some (.int x), S', D')) : am_sem (d + 1) 91 [.int x0] S D = some (some (.int x), S', D') := am_sem_of mM_91 ⟨by exact Nat.le_of_ble_eq_true rfl, rfl, hn, hs, Or.inr (Or.inr ⟨x, rfl, rfl, hb⟩), h⟩
theorem mX9_within {d : Nat} {x0 : Int32} {x1 : Int32} {x2 : Int32} {S S' : am_S} {D D' : am_D} {x : Int32} (hn : am_nx S' = am_nx S + 0) (hs : am_sl S' = am_sl S + 0) (hb : x = 0 ∨ x = 1) (h : am_ev (am_sem d) 9 cX9_within 0 [.int x0, .int x1, .int x2] [] S D (some (.int x), S', D')) : am_sem (d + 1) 92 [.int x0, .int x1, .int x2] S D = some (some (.int x), S', D') := am_sem_of mM_92 ⟨by exact Nat.le_of_ble_eq_true rfl, rfl, hn, hs, Or.inr (Or.inr ⟨x, rfl, rfl, hb⟩), h⟩
theorem mX9_found {d : Nat} {a : Nat} {x0 : Int32} {S S' : am_S} {D D' : am_D} {x : Int32} (hn : am_nx S' = am_nx S + 0) (hs : am_sl S' = am_sl S + 0) (h : am_ev (am_sem d) 9 cX9_found 0 [.ref a, .int x0] [] S D (some (.int x), S', D')) : am_sem (d + 1) 93 [.ref a, .int x0] S D = some (some (.int x), S', D') := am_sem_of mM_93 ⟨by exact Nat.le_of_ble_eq_true rfl, rfl, hn, hs, Or.inr (Or.inl ⟨x, rfl, rfl⟩), h⟩
theorem mX9_fine {d : Nat} {a : Nat} {x0 : Int32} {S S' : am_S} {D D' : am_D} {x : Int32} (hn : am_nx S' = am_nx S + 0) (hs : am_sl S' = am_sl S + 0) (h : am_ev (am_sem d) 9 cX9_fine 0 [.ref a, .int x0] [] S D (some (.int x), S', D')) : am_sem (d + 1) 94 [.ref a, .int x0] S D = some (some (.int x), S', D') := am_sem_of mM_94 ⟨by exact Nat.le_of_ble_eq_true rfl, rfl, hn, hs, Or.inr (Or.inl ⟨x, rfl, rfl⟩), h⟩
theorem mX9_set {d : Nat} {a : Nat} {x0 : Int32} {x1 : Int32} {x2 : Int32} {S S' : am_S} {D D' : am_D} {x : Int32} (hn : am_nx S' = am_nx S + 0) (hs : am_sl S' = am_sl S + 0) (h : am_ev (am_sem d) 9 cX9_set 0 [.ref a, .int x0, .int x1, .int x2, .retAddr 0] [] S D (some (.int x), S', D')) : am_sem (d + 1) 95 [.ref a, .int x0, .int x1, .int x2] S D = some (some (.int x), S', D') := am_sem_of mM_95 ⟨by exact Nat.le_of_ble_eq_true rfl, rfl, hn, hs, Or.inr (Or.inl ⟨x, rfl, rfl⟩), h⟩
theorem mX9_copy {d : Nat} {a : Nat} {x0 : Int32} {x1 : Int32} {x2 : Int32} {x3 : Int32} {x4 : Int32} {S S' : am_S} {D D' : am_D} {x : Int32} (hn : am_nx S' = am_nx S + 0) (hs : am_sl S' = am_sl S + 0) (h : am_ev (am_sem d) 9 cX9_copy 0 [.ref a, .int x0, .int x1, .int x2, .int x3, .int x4, .retAddr 0] [] S D (some (.int x), S', D')) : am_sem (d + 1) 96 [.ref a, .int x0, .int x1, .int x2, .int x3, .int x4] S D = some (some (.int x), S', D') := am_sem_of mM_96 ⟨by exact Nat.le_of_ble_eq_true rfl, rfl, hn, hs, Or.inr (Or.inl ⟨x, rfl, rfl⟩), h⟩
theorem mX9_drop {d : Nat} {a : Nat} {x0 : Int32} {S S' : am_S} {D D' : am_D} {x : Int32} (hn : am_nx S' = am_nx S + 0) (hs : am_sl S' = am_sl S + 0) (h : am_ev (am_sem d) 9 cX9_drop 0 [.ref a, .int x0] [] S D (some (.int x), S', D')) : am_sem (d + 1) 97 [.ref a, .int x0] S D = some (some (.int x), S', D') := am_sem_of mM_97 ⟨by exact Nat.le_of_ble_eq_true rfl, rfl, hn, hs, Or.inr (Or.inl ⟨x, rfl, rfl⟩), h⟩
theorem mX9_feed {d : Nat} {a : Nat} {x0 : Int32} {S S' : am_S} {D D' : am_D} {x : Int32} (hn : am_nx S' = am_nx S + 0) (hs : am_sl S' = am_sl S + 0) (h : am_ev (am_sem d) 9 cX9_feed 0 [.ref a, .int x0] [] S D (some (.int x), S', D')) : am_sem (d + 1) 98 [.ref a, .int x0] S D = some (some (.int x), S', D') := am_sem_of mM_98 ⟨by exact Nat.le_of_ble_eq_true rfl, rfl, hn, hs, Or.inr (Or.inl ⟨x, rfl, rfl⟩), h⟩
theorem mX9_league {d : Nat} {a : Nat} {S S' : am_S} {D D' : am_D} {x : Int32} (hn : am_nx S' = am_nx S + 0) (hs : am_sl S' = am_sl S + 0) (h : am_ev (am_sem d) 9 cX9_league 0 [.ref a, .retAddr 0] [] S D (some (.int x), S', D')) : am_sem (d + 1) 99 [.ref a] S D = some (some (.int x), S', D') := am_sem_of mM_99 ⟨by exact Nat.le_of_ble_eq_true rfl, rfl, hn, hs, Or.inr (Or.inl ⟨x, rfl, rfl⟩), h⟩
theorem mX9_fault {d : Nat} {a : Nat} {S S' : am_S} {D D' : am_D} {x : Int32} (hn : am_nx S' = am_nx S + 0) (hs : am_sl S' = am_sl S + 0) (h : am_ev (am_sem d) 9 cX9_fault 0 [.ref a] [] S D (some (.int x), S', D')) : am_sem (d + 1) 100 [.ref a] S D = some (some (.int x), S', D') := am_sem_of mM_100 ⟨by exact Nat.le_of_ble_eq_true rfl, rfl, hn, hs, Or.inr (Or.inl ⟨x, rfl, rfl⟩), h⟩
theorem mX9_happen {d : Nat} {a : Nat} {x0 : Int32} {S S' : am_S} {D D' : am_D} {x : Int32} (hn : am_nx S' = am_nx S + 0) (hs : am_sl S' = am_sl S + 0) (h : am_ev (am_sem d) 9 cX9_happen 0 [.ref a, .int x0] [] S D (some (.int x), S', D')) : am_sem (d + 1) 101 [.ref a, .int x0] S D = some (some (.int x), S', D') := am_sem_of mM_101 ⟨by exact Nat.le_of_ble_eq_true rfl, rfl, hn, hs, Or.inr (Or.inl ⟨x, rfl, rfl⟩), h⟩
theorem mX9_sail {d : Nat} {a : Nat} {x0 : Int32} {x1 : Int32} {S S' : am_S} {D D' : am_D} {x : Int32} (hn : am_nx S' = am_nx S + 0) (hs : am_sl S' = am_sl S + 0) (h : am_ev (am_sem d) 9 cX9_sail 0 [.ref a, .int x0, .int x1] [] S D (some (.int x), S', D')) : am_sem (d + 1) 102 [.ref a, .int x0, .int x1] S D = some (some (.int x), S', D') := am_sem_of mM_102 ⟨by exact Nat.le_of_ble_eq_true rfl, rfl, hn, hs, Or.inr (Or.inl ⟨x, rfl, rfl⟩), h⟩
theorem mX9_days {d : Nat} {a : Nat} {x0 : Int32} {S S' : am_S} {D D' : am_D} {x : Int32} (hn : am_nx S' = am_nx S + 0) (hs : am_sl S' = am_sl S + 0) (h : am_ev (am_sem d) 9 cX9_days 0 [.ref a, .int x0, .retAddr 0, .retAddr 0] [] S D (some (.int x), S', D')) : am_sem (d + 1) 103 [.ref a, .int x0] S D = some (some (.int x), S', D') := am_sem_of mM_103 ⟨by exact Nat.le_of_ble_eq_true rfl, rfl, hn, hs, Or.inr (Or.inl ⟨x, rfl, rfl⟩), h⟩
theorem mX9_undo {d : Nat} {a : Nat} {S S' : am_S} {D D' : am_D} {x : Int32} (hn : am_nx S' = am_nx S + 0) (hs : am_sl S' = am_sl S + 0) (h : am_ev (am_sem d) 9 cX9_undo 0 [.ref a] [] S D (some (.int x), S', D')) : am_sem (d + 1) 104 [.ref a] S D = some (some (.int x), S', D') := am_sem_of mM_104 ⟨by exact Nat.le_of_ble_eq_true rfl, rfl, hn, hs, Or.inr (Or.inl ⟨x, rfl, rfl⟩), h⟩
theorem mX9_ship {d : Nat} {a : Nat} {x0 : Int32} {x1 : Int32} {S S' : am_S} {D D' : am_D} {x : Int32} (hn : am_nx S' = am_nx S + 0) (hs : am_sl S' = am_sl S + 0) (h : am_ev (am_sem d) 9 cX9_ship 0 [.ref a, .int x0, .int x1] [] S D (some (.int x), S', D')) : am_sem (d + 1) 105 [.ref a, .int x0, .int x1] S D = some (some (.int x), S', D') := am_sem_of mM_105 ⟨by exact Nat.le_of_ble_eq_true rfl, rfl, hn, hs, Or.inr (Or.inl ⟨x, rfl, rfl⟩), h⟩
theorem mX9_port {d : Nat} {a : Nat} {x0 : Int32} {x1 : Int32} {S S' : am_S} {D D' : am_D} {x : Int32} (hn : am_nx S' = am_nx S + 0) (hs : am_sl S' = am_sl S + 0) (h : am_ev (am_sem d) 9 cX9_port 0 [.ref a, .int x0, .int x1] [] S D (some (.int x), S', D')) : am_sem (d + 1) 106 [.ref a, .int x0, .int x1] S D = some (some (.int x), S', D') := am_sem_of mM_106 ⟨by exact Nat.le_of_ble_eq_true rfl, rfl, hn, hs, Or.inr (Or.inl ⟨x, rfl, rfl⟩), h⟩
theorem mX9_news {d : Nat} {a : Nat} {x0 : Int32} {x1 : Int32} {S S' : am_S} {D D' : am_D} {x : Int32} (hn : am_nx S' = am_nx S + 0) (hs : am_sl S' = am_sl S + 0) (h : am_ev (am_sem d) 9 cX9_news 0 [.ref a, .int x0, .int x1] [] S D (some (.int x), S', D')) : am_sem (d + 1) 107 [.ref a, .int x0, .int x1] S D = some (some (.int x), S', D') := am_sem_of mM_107 ⟨by exact Nat.le_of_ble_eq_true rfl, rfl, hn, hs, Or.inr (Or.inl ⟨x, rfl, rfl⟩), h⟩
theorem mX9_knows {d : Nat} {a : Nat} {x0 : Int32} {x1 : Int32} {S S' : am_S} {D D' : am_D} {x : Int32} (hn : am_nx S' = am_nx S + 0) (hs : am_sl S' = am_sl S + 0) (h : am_ev (am_sem d) 9 cX9_knows 0 [.ref a, .int x0, .int x1] [] S D (some (.int x), S', D')) : am_sem (d + 1) 108 [.ref a, .int x0, .int x1] S D = some (some (.int x), S', D') := am_sem_of mM_108 ⟨by exact Nat.le_of_ble_eq_true rfl, rfl, hn, hs, Or.inr (Or.inl ⟨x, rfl, rfl⟩), h⟩
theorem mX9_takes {d : Nat} {a : Nat} {x0 : Int32} {x1 : Int32} {S S' : am_S} {D D' : am_D} {x : Int32} (hn : am_nx S' = am_nx S + 0) (hs : am_sl S' = am_sl S + 0) (h : am_ev (am_sem d) 9 cX9_takes 0 [.ref a, .int x0, .int x1] [] S D (some (.int x), S', D')) : am_sem (d + 1) 109 [.ref a, .int x0, .int x1] S D = some (some (.int x), S', D') := am_sem_of mM_109 ⟨by exact Nat.le_of_ble_eq_true rfl, rfl, hn, hs, Or.inr (Or.inl ⟨x, rfl, rfl⟩), h⟩
theorem mX9_ahead {d : Nat} {a : Nat} {x0 : Int32} {x1 : Int32} {S S' : am_S} {D D' : am_D} {x : Int32} (hn : am_nx S' = am_nx S + 0) (hs : am_sl S' = am_sl S + 0) (h : am_ev (am_sem d) 9 cX9_ahead 0 [.ref a, .int x0, .int x1] [] S D (some (.int x), S', D')) : am_sem (d + 1) 110 [.ref a, .int x0, .int x1] S D = some (some (.int x), S', D') := am_sem_of mM_110 ⟨by exact Nat.le_of_ble_eq_true rfl, rfl, hn, hs, Or.inr (Or.inl ⟨x, rfl, rfl⟩), h⟩
theorem mX9_tillHorizon {d : Nat} {x0 : Int32} {S S' : am_S} {D D' : am_D} {x : Int32} (hn : am_nx S' = am_nx S + 0) (hs : am_sl S' = am_sl S + 0) (h : am_ev (am_sem d) 9 cX9_tillHorizon 0 [.int x0] [] S D (some (.int x), S', D')) : am_sem (d + 1) 111 [.int x0] S D = some (some (.int x), S', D') := am_sem_of mM_111 ⟨by exact Nat.le_of_ble_eq_true rfl, rfl, hn, hs, Or.inr (Or.inl ⟨x, rfl, rfl⟩), h⟩
theorem mX9_carried {d : Nat} {a : Nat} {x0 : Int32} {x1 : Int32} {x2 : Int32} {S S' : am_S} {D D' : am_D} {x : Int32} (hn : am_nx S' = am_nx S + 0) (hs : am_sl S' = am_sl S + 0) (h : am_ev (am_sem d) 9 cX9_carried 0 [.ref a, .int x0, .int x1, .int x2] [] S D (some (.int x), S', D')) : am_sem (d + 1) 112 [.ref a, .int x0, .int x1, .int x2] S D = some (some (.int x), S', D') := am_sem_of mM_112 ⟨by exact Nat.le_of_ble_eq_true rfl, rfl, hn, hs, Or.inr (Or.inl ⟨x, rfl, rfl⟩), h⟩
theorem mX9_fame {d : Nat} {a : Nat} {x0 : Int32} {x1 : Int32} {x2 : Int32} {x3 : Int32} {S S' : am_S} {D D' : am_D} {x : Int32} (hn : am_nx S' = am_nx S + 0) (hs : am_sl S' = am_sl S + 0) (h : am_ev (am_sem d) 9 cX9_fame 0 [.ref a, .int x0, .int x1, .int x2, .int x3] [] S D (some (.int x), S', D')) : am_sem (d + 1) 113 [.ref a, .int x0, .int x1, .int x2, .int x3] S D = some (some (.int x), S', D') := am_sem_of mM_113 ⟨by exact Nat.le_of_ble_eq_true rfl, rfl, hn, hs, Or.inr (Or.inl ⟨x, rfl, rfl⟩), h⟩
theorem mX9_overtaken {d : Nat} {a : Nat} {x0 : Int32} {x1 : Int32} {x2 : Int32} {S S' : am_S} {D D' : am_D} {x : Int32} (hn : am_nx S' = am_nx S + 0) (hs : am_sl S' = am_sl S + 0) (h : am_ev (am_sem d) 9 cX9_overtaken 0 [.ref a, .int x0, .int x1, .int x2] [] S D (some (.int x), S', D')) : am_sem (d + 1) 114 [.ref a, .int x0, .int x1, .int x2] S D = some (some (.int x), S', D') := am_sem_of mM_114 ⟨by exact Nat.le_of_ble_eq_true rfl, rfl, hn, hs, Or.inr (Or.inl ⟨x, rfl, rfl⟩), h⟩
theorem mX9_sure {d : Nat} {a : Nat} {x0 : Int32} {x1 : Int32} {S S' : am_S} {D D' : am_D} {x : Int32} (hn : am_nx S' = am_nx S + 0) (hs : am_sl S' = am_sl S + 0) (h : am_ev (am_sem d) 9 cX9_sure 0 [.ref a, .int x0, .int x1] [] S D (some (.int x), S', D')) : am_sem (d + 1) 115 [.ref a, .int x0, .int x1] S D = some (some (.int x), S', D') := am_sem_of mM_115 ⟨by exact Nat.le_of_ble_eq_true rfl, rfl, hn, hs, Or.inr (Or.inl ⟨x, rfl, rfl⟩), h⟩
theorem mX9_began {d : Nat} {a : Nat} {x0 : Int32} {x1 : Int32} {x2 : Int32} {S S' : am_S} {D D' : am_D} {x : Int32} (hn : am_nx S' = am_nx S + 0) (hs : am_sl S' = am_sl S + 0) (h : am_ev (am_sem d) 9 cX9_began 0 [.ref a, .int x0, .int x1, .int x2, .retAddr 0] [] S D (some (.int x), S', D')) : am_sem (d + 1) 116 [.ref a, .int x0, .int x1, .int x2] S D = some (some (.int x), S', D') := am_sem_of mM_116 ⟨by exact Nat.le_of_ble_eq_true rfl, rfl, hn, hs, Or.inr (Or.inl ⟨x, rfl, rfl⟩), h⟩
theorem mX9_arePairs {d : Nat} {a : Nat} {x0 : Nat} {x1 : Int32} {x2 : Int32} {S S' : am_S} {D D' : am_D} {x : Int32} (hn : am_nx S' = am_nx S + 0) (hs : am_sl S' = am_sl S + 0) (hb : x = 0 ∨ x = 1) (h : am_ev (am_sem d) 9 cX9_arePairs 0 [.ref a, .ref x0, .int x1, .int x2, .retAddr 0] [] S D (some (.int x), S', D')) : am_sem (d + 1) 117 [.ref a, .ref x0, .int x1, .int x2] S D = some (some (.int x), S', D') := am_sem_of mM_117 ⟨by exact Nat.le_of_ble_eq_true rfl, rfl, hn, hs, Or.inr (Or.inr ⟨x, rfl, rfl, hb⟩), h⟩
theorem mX9_odds {d : Nat} {a : Nat} {x0 : Int32} {x1 : Int32} {x2 : Int32} {x3 : Int32} {x4 : Int32} {S S' : am_S} {D D' : am_D} {x : Int32} (hn : am_nx S' = am_nx S + 0) (hs : am_sl S' = am_sl S + 0) (h : am_ev (am_sem d) 9 cX9_odds 0 [.ref a, .int x0, .int x1, .int x2, .int x3, .int x4, .retAddr 0, .retAddr 0, .retAddr 0] [] S D (some (.int x), S', D')) : am_sem (d + 1) 118 [.ref a, .int x0, .int x1, .int x2, .int x3, .int x4] S D = some (some (.int x), S', D') := am_sem_of mM_118 ⟨by exact Nat.le_of_ble_eq_true rfl, rfl, hn, hs, Or.inr (Or.inl ⟨x, rfl, rfl⟩), h⟩
theorem mX9_commonDivisor {d : Nat} {x0 : Int32} {x1 : Int32} {S S' : am_S} {D D' : am_D} {x : Int32} (hn : am_nx S' = am_nx S + 0) (hs : am_sl S' = am_sl S + 0) (h : am_ev (am_sem d) 9 cX9_commonDivisor 0 [.int x0, .int x1, .retAddr 0, .retAddr 0] [] S D (some (.int x), S', D')) : am_sem (d + 1) 119 [.int x0, .int x1] S D = some (some (.int x), S', D') := am_sem_of mM_119 ⟨by exact Nat.le_of_ble_eq_true rfl, rfl, hn, hs, Or.inr (Or.inl ⟨x, rfl, rfl⟩), h⟩
theorem mX9_followed {d : Nat} {a : Nat} {x0 : Int32} {x1 : Int32} {x2 : Int32} {x3 : Int32} {x4 : Int32} {S S' : am_S} {D D' : am_D} {x : Int32} (hn : am_nx S' = am_nx S + 0) (hs : am_sl S' = am_sl S + 0) (h : am_ev (am_sem d) 9 cX9_followed 0 [.ref a, .int x0, .int x1, .int x2, .int x3, .int x4, .retAddr 0] [] S D (some (.int x), S', D')) : am_sem (d + 1) 120 [.ref a, .int x0, .int x1, .int x2, .int x3, .int x4] S D = some (some (.int x), S', D') := am_sem_of mM_120 ⟨by exact Nat.le_of_ble_eq_true rfl, rfl, hn, hs, Or.inr (Or.inl ⟨x, rfl, rfl⟩), h⟩
theorem mX9_areOrders {d : Nat} {x0 : Nat} {x1 : Int32} {x2 : Int32} {S S' : am_S} {D D' : am_D} {x : Int32} (hn : am_nx S' = am_nx S + 0) (hs : am_sl S' = am_sl S + 0) (hb : x = 0 ∨ x = 1) (h : am_ev (am_sem d) 9 cX9_areOrders 0 [.ref x0, .int x1, .int x2, .retAddr 0] [] S D (some (.int x), S', D')) : am_sem (d + 1) 121 [.ref x0, .int x1, .int x2] S D = some (some (.int x), S', D') := am_sem_of mM_121 ⟨by exact Nat.le_of_ble_eq_true rfl, rfl, hn, hs, Or.inr (Or.inr ⟨x, rfl, rfl, hb⟩), h⟩
theorem mX9_isOrder {d : Nat} {x0 : Int32} {S S' : am_S} {D D' : am_D} {x : Int32} (hn : am_nx S' = am_nx S + 0) (hs : am_sl S' = am_sl S + 0) (hb : x = 0 ∨ x = 1) (h : am_ev (am_sem d) 9 cX9_isOrder 0 [.int x0] [] S D (some (.int x), S', D')) : am_sem (d + 1) 122 [.int x0] S D = some (some (.int x), S', D') := am_sem_of mM_122 ⟨by exact Nat.le_of_ble_eq_true rfl, rfl, hn, hs, Or.inr (Or.inr ⟨x, rfl, rfl, hb⟩), h⟩
theorem mX9_image {d : Nat} {a : Nat} {x0 : Int32} {S S' : am_S} {D D' : am_D} {x : Int32} (hn : am_nx S' = am_nx S + 0) (hs : am_sl S' = am_sl S + 0) (h : am_ev (am_sem d) 9 cX9_image 0 [.ref a, .int x0] [] S D (some (.int x), S', D')) : am_sem (d + 1) 123 [.ref a, .int x0] S D = some (some (.int x), S', D') := am_sem_of mM_123 ⟨by exact Nat.le_of_ble_eq_true rfl, rfl, hn, hs, Or.inr (Or.inl ⟨x, rfl, rfl⟩), h⟩
theorem mX9_restore {d : Nat} {a : Nat} {x0 : Int32} {S S' : am_S} {D D' : am_D} {x : Int32} (hn : am_nx S' = am_nx S + 0) (hs : am_sl S' = am_sl S + 0) (h : am_ev (am_sem d) 9 cX9_restore 0 [.ref a, .int x0] [] S D (some (.int x), S', D')) : am_sem (d + 1) 124 [.ref a, .int x0] S D = some (some (.int x), S', D') := am_sem_of mM_124 ⟨by exact Nat.le_of_ble_eq_true rfl, rfl, hn, hs, Or.inr (Or.inl ⟨x, rfl, rfl⟩), h⟩
theorem mX9_kind {d : Nat} {a : Nat} {x0 : Int32} {S S' : am_S} {D D' : am_D} {x : Int32} (hn : am_nx S' = am_nx S + 0) (hs : am_sl S' = am_sl S + 0) (h : am_ev (am_sem d) 9 cX9_kind 0 [.ref a, .int x0] [] S D (some (.int x), S', D')) : am_sem (d + 1) 125 [.ref a, .int x0] S D = some (some (.int x), S', D') := am_sem_of mM_125 ⟨by exact Nat.le_of_ble_eq_true rfl, rfl, hn, hs, Or.inr (Or.inl ⟨x, rfl, rfl⟩), h⟩
theorem mX9_as {d : Nat} {a : Nat} {x0 : Int32} {x1 : Int32} {S S' : am_S} {D D' : am_D} {x : Int32} (hn : am_nx S' = am_nx S + 0) (hs : am_sl S' = am_sl S + 0) (h : am_ev (am_sem d) 9 cX9_as 0 [.ref a, .int x0, .int x1] [] S D (some (.int x), S', D')) : am_sem (d + 1) 126 [.ref a, .int x0, .int x1] S D = some (some (.int x), S', D') := am_sem_of mM_126 ⟨by exact Nat.le_of_ble_eq_true rfl, rfl, hn, hs, Or.inr (Or.inl ⟨x, rfl, rfl⟩), h⟩
theorem mX9_isKind {d : Nat} {x0 : Int32} {x1 : Int32} {S S' : am_S} {D D' : am_D} {x : Int32} (hn : am_nx S' = am_nx S + 0) (hs : am_sl S' = am_sl S + 0) (hb : x = 0 ∨ x = 1) (h : am_ev (am_sem d) 9 cX9_isKind 0 [.int x0, .int x1] [] S D (some (.int x), S', D')) : am_sem (d + 1) 127 [.int x0, .int x1] S D = some (some (.int x), S', D') := am_sem_of mM_127 ⟨by exact Nat.le_of_ble_eq_true rfl, rfl, hn, hs, Or.inr (Or.inr ⟨x, rfl, rfl, hb⟩), h⟩
theorem mX9_ask {d : Nat} {a : Nat} {x0 : Int32} {x1 : Int32} {S S' : am_S} {D D' : am_D} {x : Int32} (hn : am_nx S' = am_nx S + 0) (hs : am_sl S' = am_sl S + 0) (h : am_ev (am_sem d) 9 cX9_ask 0 [.ref a, .int x0, .int x1] [] S D (some (.int x), S', D')) : am_sem (d + 1) 128 [.ref a, .int x0, .int x1] S D = some (some (.int x), S', D') := am_sem_of mM_128 ⟨by exact Nat.le_of_ble_eq_true rfl, rfl, hn, hs, Or.inr (Or.inl ⟨x, rfl, rfl⟩), h⟩
theorem mX9_trace {d : Nat} {a : Nat} {x0 : Int32} {S S' : am_S} {D D' : am_D} {x : Int32} (hn : am_nx S' = am_nx S + 0) (hs : am_sl S' = am_sl S + 0) (h : am_ev (am_sem d) 9 cX9_trace 0 [.ref a, .int x0] [] S D (some (.int x), S', D')) : am_sem (d + 1) 129 [.ref a, .int x0] S D = some (some (.int x), S', D') := am_sem_of mM_129 ⟨by exact Nat.le_of_ble_eq_true rfl, rfl, hn, hs, Or.inr (Or.inl ⟨x, rfl, rfl⟩), h⟩
theorem mX9_count {d : Nat} {a : Nat} {x0 : Int32} {S S' : am_S} {D D' : am_D} {x : Int32} (hn : am_nx S' = am_nx S + 0) (hs : am_sl S' = am_sl S + 0) (h : am_ev (am_sem d) 9 cX9_count 0 [.ref a, .int x0] [] S D (some (.int x), S', D')) : am_sem (d + 1) 130 [.ref a, .int x0] S D = some (some (.int x), S', D') := am_sem_of mM_130 ⟨by exact Nat.le_of_ble_eq_true rfl, rfl, hn, hs, Or.inr (Or.inl ⟨x, rfl, rfl⟩), h⟩
theorem mX9_status {d : Nat} {a : Nat} {S S' : am_S} {D D' : am_D} {x : Int32} (hn : am_nx S' = am_nx S + 0) (hs : am_sl S' = am_sl S + 0) (h : am_ev (am_sem d) 9 cX9_status 0 [.ref a] [] S D (some (.int x), S', D')) : am_sem (d + 1) 131 [.ref a] S D = some (some (.int x), S', D') := am_sem_of mM_131 ⟨by exact Nat.le_of_ble_eq_true rfl, rfl, hn, hs, Or.inr (Or.inl ⟨x, rfl, rfl⟩), h⟩
theorem mX10_init {d : Nat} {a : Nat} {S S' : am_S} {D D' : am_D} (hn : am_nx S' = am_nx S + 16) (hs : am_sl S' = am_sl S + 26801) (h : am_ev (am_sem d) 110 cX10_init 0 [.ref a, .retAddr 0] [] S D (none, S', D')) : am_sem (d + 1) 132 [.ref a] S D = some (none, S', D') := am_sem_of mM_132 ⟨by exact Nat.le_of_ble_eq_true rfl, rfl, hn, hs, Or.inl ⟨rfl, rfl⟩, h⟩
theorem mX10_row {d : Nat} {a : Nat} {x0 : Int32} {x1 : Int32} {x2 : Int32} {S S' : am_S} {D D' : am_D} {x : Int32} (hn : am_nx S' = am_nx S + 0) (hs : am_sl S' = am_sl S + 0) (h : am_ev (am_sem d) 10 cX10_row 0 [.ref a, .int x0, .int x1, .int x2, .retAddr 0] [] S D (some (.int x), S', D')) : am_sem (d + 1) 133 [.ref a, .int x0, .int x1, .int x2] S D = some (some (.int x), S', D') := am_sem_of mM_133 ⟨by exact Nat.le_of_ble_eq_true rfl, rfl, hn, hs, Or.inr (Or.inl ⟨x, rfl, rfl⟩), h⟩
theorem mX10_isRow {d : Nat} {x0 : Int32} {S S' : am_S} {D D' : am_D} {x : Int32} (hn : am_nx S' = am_nx S + 0) (hs : am_sl S' = am_sl S + 0) (hb : x = 0 ∨ x = 1) (h : am_ev (am_sem d) 10 cX10_isRow 0 [.int x0] [] S D (some (.int x), S', D')) : am_sem (d + 1) 134 [.int x0] S D = some (some (.int x), S', D') := am_sem_of mM_134 ⟨by exact Nat.le_of_ble_eq_true rfl, rfl, hn, hs, Or.inr (Or.inr ⟨x, rfl, rfl, hb⟩), h⟩
theorem mX10_in {d : Nat} {x0 : Int64} {x1 : Int64} {x2 : Int64} {S S' : am_S} {D D' : am_D} {x : Int32} (hn : am_nx S' = am_nx S + 0) (hs : am_sl S' = am_sl S + 0) (hb : x = 0 ∨ x = 1) (h : am_ev (am_sem d) 10 cX10_in 0 [.long x0, .retAddr 0, .long x1, .retAddr 0, .long x2, .retAddr 0] [] S D (some (.int x), S', D')) : am_sem (d + 1) 135 [.long x0, .long x1, .long x2] S D = some (some (.int x), S', D') := am_sem_of mM_135 ⟨by exact Nat.le_of_ble_eq_true rfl, rfl, hn, hs, Or.inr (Or.inr ⟨x, rfl, rfl, hb⟩), h⟩
theorem mX10_found {d : Nat} {a : Nat} {x0 : Int32} {S S' : am_S} {D D' : am_D} {x : Int32} (hn : am_nx S' = am_nx S + 0) (hs : am_sl S' = am_sl S + 0) (h : am_ev (am_sem d) 10 cX10_found 0 [.ref a, .int x0] [] S D (some (.int x), S', D')) : am_sem (d + 1) 136 [.ref a, .int x0] S D = some (some (.int x), S', D') := am_sem_of mM_136 ⟨by exact Nat.le_of_ble_eq_true rfl, rfl, hn, hs, Or.inr (Or.inl ⟨x, rfl, rfl⟩), h⟩
theorem mX10_well {d : Nat} {a : Nat} {x0 : Int32} {S S' : am_S} {D D' : am_D} {x : Int32} (hn : am_nx S' = am_nx S + 0) (hs : am_sl S' = am_sl S + 0) (h : am_ev (am_sem d) 10 cX10_well 0 [.ref a, .int x0] [] S D (some (.int x), S', D')) : am_sem (d + 1) 137 [.ref a, .int x0] S D = some (some (.int x), S', D') := am_sem_of mM_137 ⟨by exact Nat.le_of_ble_eq_true rfl, rfl, hn, hs, Or.inr (Or.inl ⟨x, rfl, rfl⟩), h⟩
theorem mX10_set {d : Nat} {a : Nat} {x0 : Int32} {x1 : Int32} {x2 : Int32} {S S' : am_S} {D D' : am_D} {x : Int32} (hn : am_nx S' = am_nx S + 0) (hs : am_sl S' = am_sl S + 0) (h : am_ev (am_sem d) 10 cX10_set 0 [.ref a, .int x0, .int x1, .int x2] [] S D (some (.int x), S', D')) : am_sem (d + 1) 138 [.ref a, .int x0, .int x1, .int x2] S D = some (some (.int x), S', D') := am_sem_of mM_138 ⟨by exact Nat.le_of_ble_eq_true rfl, rfl, hn, hs, Or.inr (Or.inl ⟨x, rfl, rfl⟩), h⟩
theorem mX10_copy {d : Nat} {a : Nat} {x0 : Int32} {x1 : Int32} {x2 : Int32} {x3 : Int32} {x4 : Int32} {S S' : am_S} {D D' : am_D} {x : Int32} (hn : am_nx S' = am_nx S + 0) (hs : am_sl S' = am_sl S + 0) (h : am_ev (am_sem d) 10 cX10_copy 0 [.ref a, .int x0, .int x1, .int x2, .int x3, .int x4, .retAddr 0, .retAddr 0] [] S D (some (.int x), S', D')) : am_sem (d + 1) 139 [.ref a, .int x0, .int x1, .int x2, .int x3, .int x4] S D = some (some (.int x), S', D') := am_sem_of mM_139 ⟨by exact Nat.le_of_ble_eq_true rfl, rfl, hn, hs, Or.inr (Or.inl ⟨x, rfl, rfl⟩), h⟩
theorem mX10_drop {d : Nat} {a : Nat} {x0 : Int32} {S S' : am_S} {D D' : am_D} {x : Int32} (hn : am_nx S' = am_nx S + 0) (hs : am_sl S' = am_sl S + 0) (h : am_ev (am_sem d) 10 cX10_drop 0 [.ref a, .int x0, .retAddr 0] [] S D (some (.int x), S', D')) : am_sem (d + 1) 140 [.ref a, .int x0] S D = some (some (.int x), S', D') := am_sem_of mM_140 ⟨by exact Nat.le_of_ble_eq_true rfl, rfl, hn, hs, Or.inr (Or.inl ⟨x, rfl, rfl⟩), h⟩
theorem mX10_feed {d : Nat} {a : Nat} {x0 : Int32} {S S' : am_S} {D D' : am_D} {x : Int32} (hn : am_nx S' = am_nx S + 0) (hs : am_sl S' = am_sl S + 0) (h : am_ev (am_sem d) 10 cX10_feed 0 [.ref a, .int x0] [] S D (some (.int x), S', D')) : am_sem (d + 1) 141 [.ref a, .int x0] S D = some (some (.int x), S', D') := am_sem_of mM_141 ⟨by exact Nat.le_of_ble_eq_true rfl, rfl, hn, hs, Or.inr (Or.inl ⟨x, rfl, rfl⟩), h⟩
theorem mX10_league {d : Nat} {a : Nat} {S S' : am_S} {D D' : am_D} {x : Int32} (hn : am_nx S' = am_nx S + 0) (hs : am_sl S' = am_sl S + 0) (h : am_ev (am_sem d) 10 cX10_league 0 [.ref a] [] S D (some (.int x), S', D')) : am_sem (d + 1) 142 [.ref a] S D = some (some (.int x), S', D') := am_sem_of mM_142 ⟨by exact Nat.le_of_ble_eq_true rfl, rfl, hn, hs, Or.inr (Or.inl ⟨x, rfl, rfl⟩), h⟩
theorem mX10_reads {d : Nat} {a : Nat} {S S' : am_S} {D D' : am_D} {x : Int32} (hn : am_nx S' = am_nx S + 0) (hs : am_sl S' = am_sl S + 0) (hb : x = 0 ∨ x = 1) (h : am_ev (am_sem d) 10 cX10_reads 0 [.ref a, .retAddr 0] [] S D (some (.int x), S', D')) : am_sem (d + 1) 143 [.ref a] S D = some (some (.int x), S', D') := am_sem_of mM_143 ⟨by exact Nat.le_of_ble_eq_true rfl, rfl, hn, hs, Or.inr (Or.inr ⟨x, rfl, rfl, hb⟩), h⟩
theorem mX10_next {d : Nat} {a : Nat} {S S' : am_S} {D D' : am_D} (hn : am_nx S' = am_nx S + 0) (hs : am_sl S' = am_sl S + 0) (h : am_ev (am_sem d) 10 cX10_next 0 [.ref a, .retAddr 0] [] S D (none, S', D')) : am_sem (d + 1) 144 [.ref a] S D = some (none, S', D') := am_sem_of mM_144 ⟨by exact Nat.le_of_ble_eq_true rfl, rfl, hn, hs, Or.inl ⟨rfl, rfl⟩, h⟩
theorem mX10_isFigure {d : Nat} {x0 : Int32} {S S' : am_S} {D D' : am_D} {x : Int32} (hn : am_nx S' = am_nx S + 0) (hs : am_sl S' = am_sl S + 0) (hb : x = 0 ∨ x = 1) (h : am_ev (am_sem d) 10 cX10_isFigure 0 [.int x0] [] S D (some (.int x), S', D')) : am_sem (d + 1) 145 [.int x0] S D = some (some (.int x), S', D') := am_sem_of mM_145 ⟨by exact Nat.le_of_ble_eq_true rfl, rfl, hn, hs, Or.inr (Or.inr ⟨x, rfl, rfl, hb⟩), h⟩
theorem mX10_fails {d : Nat} {a : Nat} {x0 : Int32} {S S' : am_S} {D D' : am_D} {x : Int32} (hn : am_nx S' = am_nx S + 0) (hs : am_sl S' = am_sl S + 0) (hb : x = 0 ∨ x = 1) (h : am_ev (am_sem d) 10 cX10_fails 0 [.ref a, .int x0] [] S D (some (.int x), S', D')) : am_sem (d + 1) 146 [.ref a, .int x0] S D = some (some (.int x), S', D') := am_sem_of mM_146 ⟨by exact Nat.le_of_ble_eq_true rfl, rfl, hn, hs, Or.inr (Or.inr ⟨x, rfl, rfl, hb⟩), h⟩
theorem mX10_number {d : Nat} {a : Nat} {x0 : Int32} {x1 : Int32} {x2 : Int32} {x3 : Int32} {S S' : am_S} {D D' : am_D} {x : Int32} (hn : am_nx S' = am_nx S + 0) (hs : am_sl S' = am_sl S + 0) (hb : x = 0 ∨ x = 1) (h : am_ev (am_sem d) 10 cX10_number 0 [.ref a, .int x0, .int x1, .int x2, .int x3] [] S D (some (.int x), S', D')) : am_sem (d + 1) 147 [.ref a, .int x0, .int x1, .int x2, .int x3] S D = some (some (.int x), S', D') := am_sem_of mM_147 ⟨by exact Nat.le_of_ble_eq_true rfl, rfl, hn, hs, Or.inr (Or.inr ⟨x, rfl, rfl, hb⟩), h⟩
theorem mX10_sign {d : Nat} {a : Nat} {x0 : Int32} {S S' : am_S} {D D' : am_D} {x : Int32} (hn : am_nx S' = am_nx S + 0) (hs : am_sl S' = am_sl S + 0) (hb : x = 0 ∨ x = 1) (h : am_ev (am_sem d) 10 cX10_sign 0 [.ref a, .int x0] [] S D (some (.int x), S', D')) : am_sem (d + 1) 148 [.ref a, .int x0] S D = some (some (.int x), S', D') := am_sem_of mM_148 ⟨by exact Nat.le_of_ble_eq_true rfl, rfl, hn, hs, Or.inr (Or.inr ⟨x, rfl, rfl, hb⟩), h⟩
theorem mX10_readsWay {d : Nat} {a : Nat} {S S' : am_S} {D D' : am_D} {x : Int32} (hn : am_nx S' = am_nx S + 0) (hs : am_sl S' = am_sl S + 0) (hb : x = 0 ∨ x = 1) (h : am_ev (am_sem d) 10 cX10_readsWay 0 [.ref a, .retAddr 0, .retAddr 0] [] S D (some (.int x), S', D')) : am_sem (d + 1) 149 [.ref a] S D = some (some (.int x), S', D') := am_sem_of mM_149 ⟨by exact Nat.le_of_ble_eq_true rfl, rfl, hn, hs, Or.inr (Or.inr ⟨x, rfl, rfl, hb⟩), h⟩
theorem mX10_readsShip {d : Nat} {a : Nat} {S S' : am_S} {D D' : am_D} {x : Int32} (hn : am_nx S' = am_nx S + 0) (hs : am_sl S' = am_sl S + 0) (hb : x = 0 ∨ x = 1) (h : am_ev (am_sem d) 10 cX10_readsShip 0 [.ref a, .retAddr 0, .retAddr 0] [] S D (some (.int x), S', D')) : am_sem (d + 1) 150 [.ref a] S D = some (some (.int x), S', D') := am_sem_of mM_150 ⟨by exact Nat.le_of_ble_eq_true rfl, rfl, hn, hs, Or.inr (Or.inr ⟨x, rfl, rfl, hb⟩), h⟩
theorem mX10_sortOf {d : Nat} {x0 : Int32} {S S' : am_S} {D D' : am_D} {x : Int32} (hn : am_nx S' = am_nx S + 0) (hs : am_sl S' = am_sl S + 0) (h : am_ev (am_sem d) 10 cX10_sortOf 0 [.int x0] [] S D (some (.int x), S', D')) : am_sem (d + 1) 151 [.int x0] S D = some (some (.int x), S', D') := am_sem_of mM_151 ⟨by exact Nat.le_of_ble_eq_true rfl, rfl, hn, hs, Or.inr (Or.inl ⟨x, rfl, rfl⟩), h⟩
theorem mX10_copies {d : Nat} {x0 : Nat} {x1 : Int32} {x2 : Nat} {x3 : Int32} {S S' : am_S} {D D' : am_D} (hn : am_nx S' = am_nx S + 0) (hs : am_sl S' = am_sl S + 0) (h : am_ev (am_sem d) 10 cX10_copies 0 [.ref x0, .int x1, .ref x2, .int x3, .retAddr 0] [] S D (none, S', D')) : am_sem (d + 1) 152 [.ref x0, .int x1, .ref x2, .int x3] S D = some (none, S', D') := am_sem_of mM_152 ⟨by exact Nat.le_of_ble_eq_true rfl, rfl, hn, hs, Or.inl ⟨rfl, rfl⟩, h⟩
theorem mX10_fault {d : Nat} {a : Nat} {S S' : am_S} {D D' : am_D} {x : Int32} (hn : am_nx S' = am_nx S + 0) (hs : am_sl S' = am_sl S + 0) (h : am_ev (am_sem d) 10 cX10_fault 0 [.ref a] [] S D (some (.int x), S', D')) : am_sem (d + 1) 153 [.ref a] S D = some (some (.int x), S', D') := am_sem_of mM_153 ⟨by exact Nat.le_of_ble_eq_true rfl, rfl, hn, hs, Or.inr (Or.inl ⟨x, rfl, rfl⟩), h⟩
theorem mX10_happen {d : Nat} {a : Nat} {x0 : Int32} {S S' : am_S} {D D' : am_D} {x : Int32} (hn : am_nx S' = am_nx S + 0) (hs : am_sl S' = am_sl S + 0) (h : am_ev (am_sem d) 10 cX10_happen 0 [.ref a, .int x0, .retAddr 0] [] S D (some (.int x), S', D')) : am_sem (d + 1) 154 [.ref a, .int x0] S D = some (some (.int x), S', D') := am_sem_of mM_154 ⟨by exact Nat.le_of_ble_eq_true rfl, rfl, hn, hs, Or.inr (Or.inl ⟨x, rfl, rfl⟩), h⟩
theorem mX10_isPort {d : Nat} {a : Nat} {x0 : Int32} {S S' : am_S} {D D' : am_D} {x : Int32} (hn : am_nx S' = am_nx S + 0) (hs : am_sl S' = am_sl S + 0) (hb : x = 0 ∨ x = 1) (h : am_ev (am_sem d) 10 cX10_isPort 0 [.ref a, .int x0] [] S D (some (.int x), S', D')) : am_sem (d + 1) 155 [.ref a, .int x0] S D = some (some (.int x), S', D') := am_sem_of mM_155 ⟨by exact Nat.le_of_ble_eq_true rfl, rfl, hn, hs, Or.inr (Or.inr ⟨x, rfl, rfl, hb⟩), h⟩
theorem mX10_remember {d : Nat} {a : Nat} {S S' : am_S} {D D' : am_D} (hn : am_nx S' = am_nx S + 0) (hs : am_sl S' = am_sl S + 0) (h : am_ev (am_sem d) 10 cX10_remember 0 [.ref a, .retAddr 0] [] S D (none, S', D')) : am_sem (d + 1) 156 [.ref a] S D = some (none, S', D') := am_sem_of mM_156 ⟨by exact Nat.le_of_ble_eq_true rfl, rfl, hn, hs, Or.inl ⟨rfl, rfl⟩, h⟩
theorem mX10_learns {d : Nat} {x0 : Nat} {S S' : am_S} {D D' : am_D} (hn : am_nx S' = am_nx S + 0) (hs : am_sl S' = am_sl S + 0) (h : am_ev (am_sem d) 10 cX10_learns 0 [.ref x0, .retAddr 0] [] S D (none, S', D')) : am_sem (d + 1) 157 [.ref x0] S D = some (none, S', D') := am_sem_of mM_157 ⟨by exact Nat.le_of_ble_eq_true rfl, rfl, hn, hs, Or.inl ⟨rfl, rfl⟩, h⟩
theorem mX10_knownIn {d : Nat} {x0 : Nat} {x1 : Int32} {S S' : am_S} {D D' : am_D} {x : Int32} (hn : am_nx S' = am_nx S + 0) (hs : am_sl S' = am_sl S + 0) (h : am_ev (am_sem d) 10 cX10_knownIn 0 [.ref x0, .int x1, .retAddr 0, .retAddr 0] [] S D (some (.int x), S', D')) : am_sem (d + 1) 158 [.ref x0, .int x1] S D = some (some (.int x), S', D') := am_sem_of mM_158 ⟨by exact Nat.le_of_ble_eq_true rfl, rfl, hn, hs, Or.inr (Or.inl ⟨x, rfl, rfl⟩), h⟩
theorem mX10_sail {d : Nat} {a : Nat} {x0 : Int32} {x1 : Int32} {S S' : am_S} {D D' : am_D} {x : Int32} (hn : am_nx S' = am_nx S + 0) (hs : am_sl S' = am_sl S + 0) (h : am_ev (am_sem d) 10 cX10_sail 0 [.ref a, .int x0, .int x1] [] S D (some (.int x), S', D')) : am_sem (d + 1) 159 [.ref a, .int x0, .int x1] S D = some (some (.int x), S', D') := am_sem_of mM_159 ⟨by exact Nat.le_of_ble_eq_true rfl, rfl, hn, hs, Or.inr (Or.inl ⟨x, rfl, rfl⟩), h⟩
theorem mX10_isShip {d : Nat} {a : Nat} {x0 : Int32} {S S' : am_S} {D D' : am_D} {x : Int32} (hn : am_nx S' = am_nx S + 0) (hs : am_sl S' = am_sl S + 0) (hb : x = 0 ∨ x = 1) (h : am_ev (am_sem d) 10 cX10_isShip 0 [.ref a, .int x0] [] S D (some (.int x), S', D')) : am_sem (d + 1) 160 [.ref a, .int x0] S D = some (some (.int x), S', D') := am_sem_of mM_160 ⟨by exact Nat.le_of_ble_eq_true rfl, rfl, hn, hs, Or.inr (Or.inr ⟨x, rfl, rfl, hb⟩), h⟩
theorem mX10_isWay {d : Nat} {a : Nat} {x0 : Int32} {S S' : am_S} {D D' : am_D} {x : Int32} (hn : am_nx S' = am_nx S + 0) (hs : am_sl S' = am_sl S + 0) (hb : x = 0 ∨ x = 1) (h : am_ev (am_sem d) 10 cX10_isWay 0 [.ref a, .int x0] [] S D (some (.int x), S', D')) : am_sem (d + 1) 161 [.ref a, .int x0] S D = some (some (.int x), S', D') := am_sem_of mM_161 ⟨by exact Nat.le_of_ble_eq_true rfl, rfl, hn, hs, Or.inr (Or.inr ⟨x, rfl, rfl, hb⟩), h⟩
theorem mX10_endOf {d : Nat} {x0 : Nat} {x1 : Int32} {x2 : Int32} {S S' : am_S} {D D' : am_D} {x : Int32} (hn : am_nx S' = am_nx S + 0) (hs : am_sl S' = am_sl S + 0) (h : am_ev (am_sem d) 10 cX10_endOf 0 [.ref x0, .int x1, .int x2, .retAddr 0] [] S D (some (.int x), S', D')) : am_sem (d + 1) 162 [.ref x0, .int x1, .int x2] S D = some (some (.int x), S', D') := am_sem_of mM_162 ⟨by exact Nat.le_of_ble_eq_true rfl, rfl, hn, hs, Or.inr (Or.inl ⟨x, rfl, rfl⟩), h⟩
theorem mX10_sails {d : Nat} {x0 : Nat} {x1 : Int32} {x2 : Int32} {S S' : am_S} {D D' : am_D} (hn : am_nx S' = am_nx S + 0) (hs : am_sl S' = am_sl S + 0) (h : am_ev (am_sem d) 10 cX10_sails 0 [.ref x0, .int x1, .int x2, .retAddr 0] [] S D (none, S', D')) : am_sem (d + 1) 163 [.ref x0, .int x1, .int x2] S D = some (none, S', D') := am_sem_of mM_163 ⟨by exact Nat.le_of_ble_eq_true rfl, rfl, hn, hs, Or.inl ⟨rfl, rfl⟩, h⟩
theorem mX10_takesOf {d : Nat} {x0 : Nat} {x1 : Int32} {x2 : Int32} {S S' : am_S} {D D' : am_D} {x : Int32} (hn : am_nx S' = am_nx S + 0) (hs : am_sl S' = am_sl S + 0) (h : am_ev (am_sem d) 10 cX10_takesOf 0 [.ref x0, .int x1, .int x2, .retAddr 0, .retAddr 0] [] S D (some (.int x), S', D')) : am_sem (d + 1) 164 [.ref x0, .int x1, .int x2] S D = some (some (.int x), S', D') := am_sem_of mM_164 ⟨by exact Nat.le_of_ble_eq_true rfl, rfl, hn, hs, Or.inr (Or.inl ⟨x, rfl, rfl⟩), h⟩
theorem mX10_days {d : Nat} {a : Nat} {x0 : Int32} {S S' : am_S} {D D' : am_D} {x : Int32} (hn : am_nx S' = am_nx S + 0) (hs : am_sl S' = am_sl S + 0) (h : am_ev (am_sem d) 10 cX10_days 0 [.ref a, .int x0, .retAddr 0, .retAddr 0] [] S D (some (.int x), S', D')) : am_sem (d + 1) 165 [.ref a, .int x0] S D = some (some (.int x), S', D') := am_sem_of mM_165 ⟨by exact Nat.le_of_ble_eq_true rfl, rfl, hn, hs, Or.inr (Or.inl ⟨x, rfl, rfl⟩), h⟩
theorem mX10_goes {d : Nat} {x0 : Nat} {S S' : am_S} {D D' : am_D} {x : Int32} (hn : am_nx S' = am_nx S + 0) (hs : am_sl S' = am_sl S + 0) (h : am_ev (am_sem d) 10 cX10_goes 0 [.ref x0, .retAddr 0, .retAddr 0] [] S D (some (.int x), S', D')) : am_sem (d + 1) 166 [.ref x0] S D = some (some (.int x), S', D') := am_sem_of mM_166 ⟨by exact Nat.le_of_ble_eq_true rfl, rfl, hn, hs, Or.inr (Or.inl ⟨x, rfl, rfl⟩), h⟩
theorem mX10_hears {d : Nat} {x0 : Nat} {x1 : Int32} {x2 : Int32} {x3 : Int32} {S S' : am_S} {D D' : am_D} {x : Int32} (hn : am_nx S' = am_nx S + 0) (hs : am_sl S' = am_sl S + 0) (h : am_ev (am_sem d) 10 cX10_hears 0 [.ref x0, .int x1, .int x2, .int x3, .retAddr 0, .retAddr 0, .retAddr 0] [] S D (some (.int x), S', D')) : am_sem (d + 1) 167 [.ref x0, .int x1, .int x2, .int x3] S D = some (some (.int x), S', D') := am_sem_of mM_167 ⟨by exact Nat.le_of_ble_eq_true rfl, rfl, hn, hs, Or.inr (Or.inl ⟨x, rfl, rfl⟩), h⟩
theorem mX10_tells {d : Nat} {x0 : Nat} {x1 : Int32} {S S' : am_S} {D D' : am_D} {x : Int32} (hn : am_nx S' = am_nx S + 0) (hs : am_sl S' = am_sl S + 0) (h : am_ev (am_sem d) 10 cX10_tells 0 [.ref x0, .int x1, .retAddr 0, .retAddr 0, .retAddr 0, .retAddr 0] [] S D (some (.int x), S', D')) : am_sem (d + 1) 168 [.ref x0, .int x1] S D = some (some (.int x), S', D') := am_sem_of mM_168 ⟨by exact Nat.le_of_ble_eq_true rfl, rfl, hn, hs, Or.inr (Or.inl ⟨x, rfl, rfl⟩), h⟩
theorem mX10_undo {d : Nat} {a : Nat} {S S' : am_S} {D D' : am_D} {x : Int32} (hn : am_nx S' = am_nx S + 0) (hs : am_sl S' = am_sl S + 0) (h : am_ev (am_sem d) 10 cX10_undo 0 [.ref a] [] S D (some (.int x), S', D')) : am_sem (d + 1) 169 [.ref a] S D = some (some (.int x), S', D') := am_sem_of mM_169 ⟨by exact Nat.le_of_ble_eq_true rfl, rfl, hn, hs, Or.inr (Or.inl ⟨x, rfl, rfl⟩), h⟩
theorem mX10_ship {d : Nat} {a : Nat} {x0 : Int32} {x1 : Int32} {S S' : am_S} {D D' : am_D} {x : Int32} (hn : am_nx S' = am_nx S + 0) (hs : am_sl S' = am_sl S + 0) (h : am_ev (am_sem d) 10 cX10_ship 0 [.ref a, .int x0, .int x1, .retAddr 0] [] S D (some (.int x), S', D')) : am_sem (d + 1) 170 [.ref a, .int x0, .int x1] S D = some (some (.int x), S', D') := am_sem_of mM_170 ⟨by exact Nat.le_of_ble_eq_true rfl, rfl, hn, hs, Or.inr (Or.inl ⟨x, rfl, rfl⟩), h⟩
theorem mX10_port {d : Nat} {a : Nat} {x0 : Int32} {x1 : Int32} {S S' : am_S} {D D' : am_D} {x : Int32} (hn : am_nx S' = am_nx S + 0) (hs : am_sl S' = am_sl S + 0) (h : am_ev (am_sem d) 10 cX10_port 0 [.ref a, .int x0, .int x1, .retAddr 0, .retAddr 0] [] S D (some (.int x), S', D')) : am_sem (d + 1) 171 [.ref a, .int x0, .int x1] S D = some (some (.int x), S', D') := am_sem_of mM_171 ⟨by exact Nat.le_of_ble_eq_true rfl, rfl, hn, hs, Or.inr (Or.inl ⟨x, rfl, rfl⟩), h⟩
theorem mX10_isTwo {d : Nat} {x0 : Int32} {S S' : am_S} {D D' : am_D} {x : Int32} (hn : am_nx S' = am_nx S + 0) (hs : am_sl S' = am_sl S + 0) (hb : x = 0 ∨ x = 1) (h : am_ev (am_sem d) 10 cX10_isTwo 0 [.int x0] [] S D (some (.int x), S', D')) : am_sem (d + 1) 172 [.int x0] S D = some (some (.int x), S', D') := am_sem_of mM_172 ⟨by exact Nat.le_of_ble_eq_true rfl, rfl, hn, hs, Or.inr (Or.inr ⟨x, rfl, rfl, hb⟩), h⟩
theorem mX10_news {d : Nat} {a : Nat} {x0 : Int32} {x1 : Int32} {S S' : am_S} {D D' : am_D} {x : Int32} (hn : am_nx S' = am_nx S + 0) (hs : am_sl S' = am_sl S + 0) (h : am_ev (am_sem d) 10 cX10_news 0 [.ref a, .int x0, .int x1] [] S D (some (.int x), S', D')) : am_sem (d + 1) 173 [.ref a, .int x0, .int x1] S D = some (some (.int x), S', D') := am_sem_of mM_173 ⟨by exact Nat.le_of_ble_eq_true rfl, rfl, hn, hs, Or.inr (Or.inl ⟨x, rfl, rfl⟩), h⟩
theorem mX10_isNews {d : Nat} {a : Nat} {x0 : Int32} {S S' : am_S} {D D' : am_D} {x : Int32} (hn : am_nx S' = am_nx S + 0) (hs : am_sl S' = am_sl S + 0) (hb : x = 0 ∨ x = 1) (h : am_ev (am_sem d) 10 cX10_isNews 0 [.ref a, .int x0] [] S D (some (.int x), S', D')) : am_sem (d + 1) 174 [.ref a, .int x0] S D = some (some (.int x), S', D') := am_sem_of mM_174 ⟨by exact Nat.le_of_ble_eq_true rfl, rfl, hn, hs, Or.inr (Or.inr ⟨x, rfl, rfl, hb⟩), h⟩
theorem mX10_knows {d : Nat} {a : Nat} {x0 : Int32} {x1 : Int32} {S S' : am_S} {D D' : am_D} {x : Int32} (hn : am_nx S' = am_nx S + 0) (hs : am_sl S' = am_sl S + 0) (h : am_ev (am_sem d) 10 cX10_knows 0 [.ref a, .int x0, .int x1] [] S D (some (.int x), S', D')) : am_sem (d + 1) 175 [.ref a, .int x0, .int x1] S D = some (some (.int x), S', D') := am_sem_of mM_175 ⟨by exact Nat.le_of_ble_eq_true rfl, rfl, hn, hs, Or.inr (Or.inl ⟨x, rfl, rfl⟩), h⟩
theorem mX10_orNone {d : Nat} {x0 : Int32} {S S' : am_S} {D D' : am_D} {x : Int32} (hn : am_nx S' = am_nx S + 0) (hs : am_sl S' = am_sl S + 0) (h : am_ev (am_sem d) 10 cX10_orNone 0 [.int x0] [] S D (some (.int x), S', D')) : am_sem (d + 1) 176 [.int x0] S D = some (some (.int x), S', D') := am_sem_of mM_176 ⟨by exact Nat.le_of_ble_eq_true rfl, rfl, hn, hs, Or.inr (Or.inl ⟨x, rfl, rfl⟩), h⟩
theorem mX10_takes {d : Nat} {a : Nat} {x0 : Int32} {x1 : Int32} {S S' : am_S} {D D' : am_D} {x : Int32} (hn : am_nx S' = am_nx S + 0) (hs : am_sl S' = am_sl S + 0) (h : am_ev (am_sem d) 10 cX10_takes 0 [.ref a, .int x0, .int x1] [] S D (some (.int x), S', D')) : am_sem (d + 1) 177 [.ref a, .int x0, .int x1] S D = some (some (.int x), S', D') := am_sem_of mM_177 ⟨by exact Nat.le_of_ble_eq_true rfl, rfl, hn, hs, Or.inr (Or.inl ⟨x, rfl, rfl⟩), h⟩
theorem mX10_ahead {d : Nat} {a : Nat} {x0 : Int32} {x1 : Int32} {S S' : am_S} {D D' : am_D} {x : Int32} (hn : am_nx S' = am_nx S + 0) (hs : am_sl S' = am_sl S + 0) (h : am_ev (am_sem d) 10 cX10_ahead 0 [.ref a, .int x0, .int x1] [] S D (some (.int x), S', D')) : am_sem (d + 1) 178 [.ref a, .int x0, .int x1] S D = some (some (.int x), S', D') := am_sem_of mM_178 ⟨by exact Nat.le_of_ble_eq_true rfl, rfl, hn, hs, Or.inr (Or.inl ⟨x, rfl, rfl⟩), h⟩
theorem mX10_tries {d : Nat} {a : Nat} {x0 : Int32} {x1 : Int32} {x2 : Int32} {S S' : am_S} {D D' : am_D} (hn : am_nx S' = am_nx S + 0) (hs : am_sl S' = am_sl S + 0) (h : am_ev (am_sem d) 10 cX10_tries 0 [.ref a, .int x0, .int x1, .int x2, .retAddr 0] [] S D (none, S', D')) : am_sem (d + 1) 179 [.ref a, .int x0, .int x1, .int x2] S D = some (none, S', D') := am_sem_of mM_179 ⟨by exact Nat.le_of_ble_eq_true rfl, rfl, hn, hs, Or.inl ⟨rfl, rfl⟩, h⟩
theorem mX10_carried {d : Nat} {a : Nat} {x0 : Int32} {x1 : Int32} {x2 : Int32} {S S' : am_S} {D D' : am_D} {x : Int32} (hn : am_nx S' = am_nx S + 0) (hs : am_sl S' = am_sl S + 0) (h : am_ev (am_sem d) 10 cX10_carried 0 [.ref a, .int x0, .int x1, .int x2, .retAddr 0] [] S D (some (.int x), S', D')) : am_sem (d + 1) 180 [.ref a, .int x0, .int x1, .int x2] S D = some (some (.int x), S', D') := am_sem_of mM_180 ⟨by exact Nat.le_of_ble_eq_true rfl, rfl, hn, hs, Or.inr (Or.inl ⟨x, rfl, rfl⟩), h⟩
theorem mX10_layBrings {d : Nat} {a : Nat} {x0 : Int32} {x1 : Int32} {S S' : am_S} {D D' : am_D} (hn : am_nx S' = am_nx S + 0) (hs : am_sl S' = am_sl S + 0) (h : am_ev (am_sem d) 10 cX10_layBrings 0 [.ref a, .int x0, .int x1, .retAddr 0, .retAddr 0, .retAddr 0, .retAddr 0] [] S D (none, S', D')) : am_sem (d + 1) 181 [.ref a, .int x0, .int x1] S D = some (none, S', D') := am_sem_of mM_181 ⟨by exact Nat.le_of_ble_eq_true rfl, rfl, hn, hs, Or.inl ⟨rfl, rfl⟩, h⟩
theorem mX10_layComes {d : Nat} {a : Nat} {x0 : Int32} {S S' : am_S} {D D' : am_D} (hn : am_nx S' = am_nx S + 0) (hs : am_sl S' = am_sl S + 0) (h : am_ev (am_sem d) 10 cX10_layComes 0 [.ref a, .int x0, .retAddr 0] [] S D (none, S', D')) : am_sem (d + 1) 182 [.ref a, .int x0] S D = some (none, S', D') := am_sem_of mM_182 ⟨by exact Nat.le_of_ble_eq_true rfl, rfl, hn, hs, Or.inl ⟨rfl, rfl⟩, h⟩
theorem mX10_beginOf {d : Nat} {a : Nat} {x0 : Int32} {S S' : am_S} {D D' : am_D} {x : Int32} (hn : am_nx S' = am_nx S + 0) (hs : am_sl S' = am_sl S + 0) (h : am_ev (am_sem d) 10 cX10_beginOf 0 [.ref a, .int x0] [] S D (some (.int x), S', D')) : am_sem (d + 1) 183 [.ref a, .int x0] S D = some (some (.int x), S', D') := am_sem_of mM_183 ⟨by exact Nat.le_of_ble_eq_true rfl, rfl, hn, hs, Or.inr (Or.inl ⟨x, rfl, rfl⟩), h⟩
theorem mX10_sinks {d : Nat} {a : Nat} {x0 : Int32} {x1 : Nat} {S S' : am_S} {D D' : am_D} (hn : am_nx S' = am_nx S + 0) (hs : am_sl S' = am_sl S + 0) (h : am_ev (am_sem d) 10 cX10_sinks 0 [.ref a, .int x0, .ref x1, .retAddr 0, .retAddr 0, .retAddr 0, .retAddr 0, .retAddr 0] [] S D (none, S', D')) : am_sem (d + 1) 184 [.ref a, .int x0, .ref x1] S D = some (none, S', D') := am_sem_of mM_184 ⟨by exact Nat.le_of_ble_eq_true rfl, rfl, hn, hs, Or.inl ⟨rfl, rfl⟩, h⟩
theorem mX10_fame {d : Nat} {a : Nat} {x0 : Int32} {x1 : Int32} {x2 : Int32} {x3 : Int32} {S S' : am_S} {D D' : am_D} {x : Int32} (hn : am_nx S' = am_nx S + 0) (hs : am_sl S' = am_sl S + 0) (h : am_ev (am_sem d) 10 cX10_fame 0 [.ref a, .int x0, .int x1, .int x2, .int x3, .retAddr 0, .retAddr 0, .retAddr 0, .retAddr 0, .retAddr 0, .retAddr 0, .retAddr 0, .retAddr 0, .retAddr 0] [] S D (some (.int x), S', D')) : am_sem (d + 1) 185 [.ref a, .int x0, .int x1, .int x2, .int x3] S D = some (some (.int x), S', D') := am_sem_of mM_185 ⟨by exact Nat.le_of_ble_eq_true rfl, rfl, hn, hs, Or.inr (Or.inl ⟨x, rfl, rfl⟩), h⟩
theorem mX10_lays {d : Nat} {a : Nat} {x0 : Int32} {x1 : Int32} {x2 : Int32} {x3 : Int32} {x4 : Int32} {x5 : Int32} {x6 : Int32} {S S' : am_S} {D D' : am_D} (hn : am_nx S' = am_nx S + 0) (hs : am_sl S' = am_sl S + 0) (h : am_ev (am_sem d) 10 cX10_lays 0 [.ref a, .int x0, .int x1, .int x2, .int x3, .int x4, .int x5, .int x6, .retAddr 0, .retAddr 0, .retAddr 0] [] S D (none, S', D')) : am_sem (d + 1) 186 [.ref a, .int x0, .int x1, .int x2, .int x3, .int x4, .int x5, .int x6] S D = some (none, S', D') := am_sem_of mM_186 ⟨by exact Nat.le_of_ble_eq_true rfl, rfl, hn, hs, Or.inl ⟨rfl, rfl⟩, h⟩
theorem mX10_isThere {d : Nat} {a : Nat} {x0 : Int32} {x1 : Int32} {S S' : am_S} {D D' : am_D} {x : Int32} (hn : am_nx S' = am_nx S + 0) (hs : am_sl S' = am_sl S + 0) (hb : x = 0 ∨ x = 1) (h : am_ev (am_sem d) 10 cX10_isThere 0 [.ref a, .int x0, .int x1] [] S D (some (.int x), S', D')) : am_sem (d + 1) 187 [.ref a, .int x0, .int x1] S D = some (some (.int x), S', D') := am_sem_of mM_187 ⟨by exact Nat.le_of_ble_eq_true rfl, rfl, hn, hs, Or.inr (Or.inr ⟨x, rfl, rfl, hb⟩), h⟩
theorem mX10_placeOf {d : Nat} {x0 : Int32} {x1 : Int32} {x2 : Int32} {x3 : Int32} {S S' : am_S} {D D' : am_D} {x : Int32} (hn : am_nx S' = am_nx S + 0) (hs : am_sl S' = am_sl S + 0) (h : am_ev (am_sem d) 10 cX10_placeOf 0 [.int x0, .int x1, .int x2, .int x3] [] S D (some (.int x), S', D')) : am_sem (d + 1) 188 [.int x0, .int x1, .int x2, .int x3] S D = some (some (.int x), S', D') := am_sem_of mM_188 ⟨by exact Nat.le_of_ble_eq_true rfl, rfl, hn, hs, Or.inr (Or.inl ⟨x, rfl, rfl⟩), h⟩
theorem mX10_bits {d : Nat} {x0 : Int32} {S S' : am_S} {D D' : am_D} {x : Int32} (hn : am_nx S' = am_nx S + 0) (hs : am_sl S' = am_sl S + 0) (h : am_ev (am_sem d) 10 cX10_bits 0 [.int x0, .retAddr 0, .retAddr 0] [] S D (some (.int x), S', D')) : am_sem (d + 1) 189 [.int x0] S D = some (some (.int x), S', D') := am_sem_of mM_189 ⟨by exact Nat.le_of_ble_eq_true rfl, rfl, hn, hs, Or.inr (Or.inl ⟨x, rfl, rfl⟩), h⟩
theorem mX10_overtaken {d : Nat} {a : Nat} {x0 : Int32} {x1 : Int32} {x2 : Int32} {S S' : am_S} {D D' : am_D} {x : Int32} (hn : am_nx S' = am_nx S + 0) (hs : am_sl S' = am_sl S + 0) (h : am_ev (am_sem d) 10 cX10_overtaken 0 [.ref a, .int x0, .int x1, .int x2] [] S D (some (.int x), S', D')) : am_sem (d + 1) 190 [.ref a, .int x0, .int x1, .int x2] S D = some (some (.int x), S', D') := am_sem_of mM_190 ⟨by exact Nat.le_of_ble_eq_true rfl, rfl, hn, hs, Or.inr (Or.inl ⟨x, rfl, rfl⟩), h⟩
theorem mX10_sure {d : Nat} {a : Nat} {x0 : Int32} {x1 : Int32} {S S' : am_S} {D D' : am_D} {x : Int32} (hn : am_nx S' = am_nx S + 0) (hs : am_sl S' = am_sl S + 0) (h : am_ev (am_sem d) 10 cX10_sure 0 [.ref a, .int x0, .int x1, .retAddr 0, .retAddr 0, .retAddr 0, .retAddr 0, .retAddr 0] [] S D (some (.int x), S', D')) : am_sem (d + 1) 191 [.ref a, .int x0, .int x1] S D = some (some (.int x), S', D') := am_sem_of mM_191 ⟨by exact Nat.le_of_ble_eq_true rfl, rfl, hn, hs, Or.inr (Or.inl ⟨x, rfl, rfl⟩), h⟩
theorem mX10_laySignals {d : Nat} {a : Nat} {S S' : am_S} {D D' : am_D} (hn : am_nx S' = am_nx S + 0) (hs : am_sl S' = am_sl S + 0) (h : am_ev (am_sem d) 10 cX10_laySignals 0 [.ref a, .retAddr 0, .retAddr 0, .retAddr 0, .retAddr 0] [] S D (none, S', D')) : am_sem (d + 1) 192 [.ref a] S D = some (none, S', D') := am_sem_of mM_192 ⟨by exact Nat.le_of_ble_eq_true rfl, rfl, hn, hs, Or.inl ⟨rfl, rfl⟩, h⟩
theorem mX10_began {d : Nat} {a : Nat} {x0 : Int32} {x1 : Int32} {x2 : Int32} {S S' : am_S} {D D' : am_D} {x : Int32} (hn : am_nx S' = am_nx S + 0) (hs : am_sl S' = am_sl S + 0) (h : am_ev (am_sem d) 10 cX10_began 0 [.ref a, .int x0, .int x1, .int x2, .retAddr 0, .retAddr 0, .retAddr 0, .retAddr 0, .retAddr 0, .retAddr 0] [] S D (some (.int x), S', D')) : am_sem (d + 1) 193 [.ref a, .int x0, .int x1, .int x2] S D = some (some (.int x), S', D') := am_sem_of mM_193 ⟨by exact Nat.le_of_ble_eq_true rfl, rfl, hn, hs, Or.inr (Or.inl ⟨x, rfl, rfl⟩), h⟩
theorem mX10_odds {d : Nat} {a : Nat} {x0 : Int32} {x1 : Int32} {x2 : Int32} {x3 : Int32} {x4 : Int32} {S S' : am_S} {D D' : am_D} {x : Int32} (hn : am_nx S' = am_nx S + 0) (hs : am_sl S' = am_sl S + 0) (h : am_ev (am_sem d) 10 cX10_odds 0 [.ref a, .int x0, .int x1, .int x2, .int x3, .int x4, .retAddr 0, .retAddr 0, .retAddr 0, .retAddr 0, .retAddr 0, .retAddr 0] [] S D (some (.int x), S', D')) : am_sem (d + 1) 194 [.ref a, .int x0, .int x1, .int x2, .int x3, .int x4] S D = some (some (.int x), S', D') := am_sem_of mM_194 ⟨by exact Nat.le_of_ble_eq_true rfl, rfl, hn, hs, Or.inr (Or.inl ⟨x, rfl, rfl⟩), h⟩
theorem mX10_followed {d : Nat} {a : Nat} {x0 : Int32} {x1 : Int32} {x2 : Int32} {x3 : Int32} {x4 : Int32} {S S' : am_S} {D D' : am_D} {x : Int32} (hn : am_nx S' = am_nx S + 0) (hs : am_sl S' = am_sl S + 0) (h : am_ev (am_sem d) 10 cX10_followed 0 [.ref a, .int x0, .int x1, .int x2, .int x3, .int x4, .retAddr 0, .retAddr 0, .retAddr 0] [] S D (some (.int x), S', D')) : am_sem (d + 1) 195 [.ref a, .int x0, .int x1, .int x2, .int x3, .int x4] S D = some (some (.int x), S', D') := am_sem_of mM_195 ⟨by exact Nat.le_of_ble_eq_true rfl, rfl, hn, hs, Or.inr (Or.inl ⟨x, rfl, rfl⟩), h⟩
theorem mX10_isOrder {d : Nat} {x0 : Int32} {S S' : am_S} {D D' : am_D} {x : Int32} (hn : am_nx S' = am_nx S + 0) (hs : am_sl S' = am_sl S + 0) (hb : x = 0 ∨ x = 1) (h : am_ev (am_sem d) 10 cX10_isOrder 0 [.int x0] [] S D (some (.int x), S', D')) : am_sem (d + 1) 196 [.int x0] S D = some (some (.int x), S', D') := am_sem_of mM_196 ⟨by exact Nat.le_of_ble_eq_true rfl, rfl, hn, hs, Or.inr (Or.inr ⟨x, rfl, rfl, hb⟩), h⟩
theorem mX10_obeys {d : Nat} {a : Nat} {x0 : Int32} {x1 : Int32} {S S' : am_S} {D D' : am_D} {x : Int32} (hn : am_nx S' = am_nx S + 0) (hs : am_sl S' = am_sl S + 0) (h : am_ev (am_sem d) 10 cX10_obeys 0 [.ref a, .int x0, .int x1, .retAddr 0] [] S D (some (.int x), S', D')) : am_sem (d + 1) 197 [.ref a, .int x0, .int x1] S D = some (some (.int x), S', D') := am_sem_of mM_197 ⟨by exact Nat.le_of_ble_eq_true rfl, rfl, hn, hs, Or.inr (Or.inl ⟨x, rfl, rfl⟩), h⟩
theorem mX10_image {d : Nat} {a : Nat} {x0 : Int32} {S S' : am_S} {D D' : am_D} {x : Int32} (hn : am_nx S' = am_nx S + 0) (hs : am_sl S' = am_sl S + 0) (h : am_ev (am_sem d) 10 cX10_image 0 [.ref a, .int x0] [] S D (some (.int x), S', D')) : am_sem (d + 1) 198 [.ref a, .int x0] S D = some (some (.int x), S', D') := am_sem_of mM_198 ⟨by exact Nat.le_of_ble_eq_true rfl, rfl, hn, hs, Or.inr (Or.inl ⟨x, rfl, rfl⟩), h⟩
theorem mX10_restore {d : Nat} {a : Nat} {x0 : Int32} {S S' : am_S} {D D' : am_D} {x : Int32} (hn : am_nx S' = am_nx S + 0) (hs : am_sl S' = am_sl S + 0) (h : am_ev (am_sem d) 10 cX10_restore 0 [.ref a, .int x0] [] S D (some (.int x), S', D')) : am_sem (d + 1) 199 [.ref a, .int x0] S D = some (some (.int x), S', D') := am_sem_of mM_199 ⟨by exact Nat.le_of_ble_eq_true rfl, rfl, hn, hs, Or.inr (Or.inl ⟨x, rfl, rfl⟩), h⟩
theorem mX10_kind {d : Nat} {a : Nat} {x0 : Int32} {S S' : am_S} {D D' : am_D} {x : Int32} (hn : am_nx S' = am_nx S + 0) (hs : am_sl S' = am_sl S + 0) (h : am_ev (am_sem d) 10 cX10_kind 0 [.ref a, .int x0] [] S D (some (.int x), S', D')) : am_sem (d + 1) 200 [.ref a, .int x0] S D = some (some (.int x), S', D') := am_sem_of mM_200 ⟨by exact Nat.le_of_ble_eq_true rfl, rfl, hn, hs, Or.inr (Or.inl ⟨x, rfl, rfl⟩), h⟩
theorem mX10_as {d : Nat} {a : Nat} {x0 : Int32} {x1 : Int32} {S S' : am_S} {D D' : am_D} {x : Int32} (hn : am_nx S' = am_nx S + 0) (hs : am_sl S' = am_sl S + 0) (h : am_ev (am_sem d) 10 cX10_as 0 [.ref a, .int x0, .int x1] [] S D (some (.int x), S', D')) : am_sem (d + 1) 201 [.ref a, .int x0, .int x1] S D = some (some (.int x), S', D') := am_sem_of mM_201 ⟨by exact Nat.le_of_ble_eq_true rfl, rfl, hn, hs, Or.inr (Or.inl ⟨x, rfl, rfl⟩), h⟩
theorem mX10_isOf {d : Nat} {x0 : Int32} {x1 : Int32} {S S' : am_S} {D D' : am_D} {x : Int32} (hn : am_nx S' = am_nx S + 0) (hs : am_sl S' = am_sl S + 0) (hb : x = 0 ∨ x = 1) (h : am_ev (am_sem d) 10 cX10_isOf 0 [.int x0, .int x1] [] S D (some (.int x), S', D')) : am_sem (d + 1) 202 [.int x0, .int x1] S D = some (some (.int x), S', D') := am_sem_of mM_202 ⟨by exact Nat.le_of_ble_eq_true rfl, rfl, hn, hs, Or.inr (Or.inr ⟨x, rfl, rfl, hb⟩), h⟩
theorem mX10_ask {d : Nat} {a : Nat} {x0 : Int32} {x1 : Int32} {S S' : am_S} {D D' : am_D} {x : Int32} (hn : am_nx S' = am_nx S + 0) (hs : am_sl S' = am_sl S + 0) (h : am_ev (am_sem d) 10 cX10_ask 0 [.ref a, .int x0, .int x1, .retAddr 0, .retAddr 0] [] S D (some (.int x), S', D')) : am_sem (d + 1) 203 [.ref a, .int x0, .int x1] S D = some (some (.int x), S', D') := am_sem_of mM_203 ⟨by exact Nat.le_of_ble_eq_true rfl, rfl, hn, hs, Or.inr (Or.inl ⟨x, rfl, rfl⟩), h⟩
theorem mX10_mark {d : Nat} {a : Nat} {x0 : Int32} {S S' : am_S} {D D' : am_D} {x : Int32} (hn : am_nx S' = am_nx S + 0) (hs : am_sl S' = am_sl S + 0) (h : am_ev (am_sem d) 10 cX10_mark 0 [.ref a, .int x0, .retAddr 0, .retAddr 0] [] S D (some (.int x), S', D')) : am_sem (d + 1) 204 [.ref a, .int x0] S D = some (some (.int x), S', D') := am_sem_of mM_204 ⟨by exact Nat.le_of_ble_eq_true rfl, rfl, hn, hs, Or.inr (Or.inl ⟨x, rfl, rfl⟩), h⟩
theorem mX10_leave {d : Nat} {a : Nat} {x0 : Int64} {S S' : am_S} {D D' : am_D} (hn : am_nx S' = am_nx S + 0) (hs : am_sl S' = am_sl S + 0) (h : am_ev (am_sem d) 10 cX10_leave 0 [.ref a, .long x0, .retAddr 0, .retAddr 0, .retAddr 0, .retAddr 0, .retAddr 0] [] S D (none, S', D')) : am_sem (d + 1) 205 [.ref a, .long x0] S D = some (none, S', D') := am_sem_of mM_205 ⟨by exact Nat.le_of_ble_eq_true rfl, rfl, hn, hs, Or.inl ⟨rfl, rfl⟩, h⟩
theorem mX10_sizeOf {d : Nat} {a : Nat} {x0 : Int32} {S S' : am_S} {D D' : am_D} {x : Int32} (hn : am_nx S' = am_nx S + 0) (hs : am_sl S' = am_sl S + 0) (h : am_ev (am_sem d) 10 cX10_sizeOf 0 [.ref a, .int x0, .retAddr 0, .retAddr 0] [] S D (some (.int x), S', D')) : am_sem (d + 1) 206 [.ref a, .int x0] S D = some (some (.int x), S', D') := am_sem_of mM_206 ⟨by exact Nat.le_of_ble_eq_true rfl, rfl, hn, hs, Or.inr (Or.inl ⟨x, rfl, rfl⟩), h⟩
theorem mX10_trace {d : Nat} {a : Nat} {x0 : Int32} {S S' : am_S} {D D' : am_D} {x : Int32} (hn : am_nx S' = am_nx S + 0) (hs : am_sl S' = am_sl S + 0) (h : am_ev (am_sem d) 10 cX10_trace 0 [.ref a, .int x0] [] S D (some (.int x), S', D')) : am_sem (d + 1) 207 [.ref a, .int x0] S D = some (some (.int x), S', D') := am_sem_of mM_207 ⟨by exact Nat.le_of_ble_eq_true rfl, rfl, hn, hs, Or.inr (Or.inl ⟨x, rfl, rfl⟩), h⟩
theorem mX10_count {d : Nat} {a : Nat} {x0 : Int32} {S S' : am_S} {D D' : am_D} {x : Int32} (hn : am_nx S' = am_nx S + 0) (hs : am_sl S' = am_sl S + 0) (h : am_ev (am_sem d) 10 cX10_count 0 [.ref a, .int x0, .retAddr 0, .retAddr 0, .retAddr 0] [] S D (some (.int x), S', D')) : am_sem (d + 1) 208 [.ref a, .int x0] S D = some (some (.int x), S', D') := am_sem_of mM_208 ⟨by exact Nat.le_of_ble_eq_true rfl, rfl, hn, hs, Or.inr (Or.inl ⟨x, rfl, rfl⟩), h⟩
theorem mX10_status {d : Nat} {a : Nat} {S S' : am_S} {D D' : am_D} {x : Int32} (hn : am_nx S' = am_nx S + 0) (hs : am_sl S' = am_sl S + 0) (h : am_ev (am_sem d) 10 cX10_status 0 [.ref a] [] S D (some (.int x), S', D')) : am_sem (d + 1) 209 [.ref a] S D = some (some (.int x), S', D') := am_sem_of mM_209 ⟨by exact Nat.le_of_ble_eq_true rfl, rfl, hn, hs, Or.inr (Or.inl ⟨x, rfl, rfl⟩), h⟩
theorem mJ6_bitCount_0f7a4 {d : Nat} {x0 : Int32} {S S' : am_S} {D D' : am_D} {x : Int32} (hn : am_nx S' = am_nx S + 0) (hs : am_sl S' = am_sl S + 0) (h : am_ev (am_sem d) 11 cJ6_bitCount_0f7a4 0 [.int x0] [] S D (some (.int x), S', D')) : am_sem (d + 1) 210 [.int x0] S D = some (some (.int x), S', D') := am_sem_of mM_210 ⟨by exact Nat.le_of_ble_eq_true rfl, rfl, hn, hs, Or.inr (Or.inl ⟨x, rfl, rfl⟩), h⟩
theorem mJ7_fill_53178 {d : Nat} {x0 : Nat} {x1 : Int32} {S S' : am_S} {D D' : am_D} (hn : am_nx S' = am_nx S + 0) (hs : am_sl S' = am_sl S + 0) (h : am_ev (am_sem d) 13 cJ7_fill_53178 0 [.ref x0, .int x1, .retAddr 0, .retAddr 0] [] S D (none, S', D')) : am_sem (d + 1) 211 [.ref x0, .int x1] S D = some (none, S', D') := am_sem_of mM_211 ⟨by exact Nat.le_of_ble_eq_true rfl, rfl, hn, hs, Or.inl ⟨rfl, rfl⟩, h⟩
