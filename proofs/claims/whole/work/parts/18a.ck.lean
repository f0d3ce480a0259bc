set_option maxRecDepth 1000000 in
theorem ck_0 : ckL prog_20_method_59_code 14 false (some .int) cd_0 0 = true := by decide +kernel
set_option maxRecDepth 1000000 in
theorem ck_1 : ckL prog_20_method_50_code 14 false (some .int) cd_1 0 = true := by decide +kernel
set_option maxRecDepth 1000000 in
theorem ck_2 : ckL prog_20_method_65_code 14 false (some .int) cd_2 0 = true := by decide +kernel
set_option maxRecDepth 1000000 in
theorem ck_3 : ckL prog_20_method_69_code 14 false (some .int) cd_3 0 = true := by decide +kernel
set_option maxRecDepth 1000000 in
theorem ck_4 : ckL prog_29_method_103_code 15 false (none) cd_4 0 = true := by decide +kernel
set_option maxRecDepth 1000000 in
theorem ck_5 : ckL prog_29_method_104_code 15 false (none) cd_5 0 = true := by decide +kernel
set_option maxRecDepth 1000000 in
theorem ck_6 : ckL prog_29_method_102_code 15 false (none) cd_6 0 = true := by decide +kernel
set_option maxRecDepth 1000000 in
theorem ck_7 : ckL prog_29_method_30_code 15 false (none) cd_7 0 = true := by decide +kernel
set_option maxRecDepth 1000000 in
theorem ck_8 : ckL prog_22_method_54_code 16 false (some .int) cd_8 0 = true := by decide +kernel
set_option maxRecDepth 1000000 in
theorem ck_9 : ckL prog_22_method_152_code 16 false (some .byte) cd_9 0 = true := by decide +kernel
set_option maxRecDepth 1000000 in
theorem ck_10 : ckL prog_22_method_154_code 16 false (some .boolean) cd_10 0 = true := by decide +kernel
set_option maxRecDepth 1000000 in
theorem ck_11 : ckL prog_22_method_56_code 16 false (some .char) cd_11 0 = true := by decide +kernel
set_option maxRecDepth 1000000 in
theorem ck_12 : ckL prog_22_method_155_code 16 false (none) cd_12 0 = true := by decide +kernel
set_option maxRecDepth 1000000 in
theorem ck_13 : ckL prog_22_method_79_code 16 false (some .int) cd_13 0 = true := by decide +kernel
set_option maxRecDepth 1000000 in
theorem ck_14 : ckL prog_22_method_80_code 16 false (some .int) cd_14 0 = true := by decide +kernel
set_option maxRecDepth 1000000 in
theorem ck_15 : ckL prog_23_method_2_code 17 false (some .char) cd_15 0 = true := by decide +kernel
set_option maxRecDepth 1000000 in
theorem ck_16 : ckL prog_23_method_4_code 17 false (some .boolean) cd_16 0 = true := by decide +kernel
set_option maxRecDepth 1000000 in
theorem ck_17 : ckL prog_23_method_22_code 17 false (some .int) cd_17 0 = true := by decide +kernel
set_option maxRecDepth 1000000 in
theorem ck_18 : ckL prog_23_method_23_code 17 false (some .int) cd_18 0 = true := by decide +kernel
set_option maxRecDepth 1000000 in
theorem ck_19 : ckL prog_31_method_11_code 18 false (some .int) cd_19 0 = true := by decide +kernel
set_option maxRecDepth 1000000 in
theorem ck_20 : ckL prog_1_method_1_code 0 true (none) cd_20 0 = true := by decide +kernel
set_option maxRecDepth 1000000 in
theorem ck_21 : ckL prog_1_method_2_code 0 false (some .int) cd_21 0 = true := by decide +kernel
set_option maxRecDepth 1000000 in
theorem ck_22 : ckL prog_1_method_3_code 0 false (some .int) cd_22 0 = true := by decide +kernel
set_option maxRecDepth 1000000 in
theorem ck_23 : ckL prog_1_method_4_code 0 false (some .int) cd_23 0 = true := by decide +kernel
set_option maxRecDepth 1000000 in
theorem ck_24 : ckL prog_1_method_5_code 0 false (some .int) cd_24 0 = true := by decide +kernel
set_option maxRecDepth 1000000 in
theorem ck_25 : ckL prog_1_method_6_code 0 false (some .int) cd_25 0 = true := by decide +kernel
set_option maxRecDepth 1000000 in
theorem ck_26 : ckL prog_1_method_7_code 0 false (some .int) cd_26 0 = true := by decide +kernel
set_option maxRecDepth 1000000 in
theorem ck_27 : ckL prog_1_method_8_code 0 false (some .int) cd_27 0 = true := by decide +kernel
set_option maxRecDepth 1000000 in
theorem ck_28 : ckL prog_1_method_9_code 0 false (some .int) cd_28 0 = true := by decide +kernel
set_option maxRecDepth 1000000 in
theorem ck_29 : ckL prog_1_method_10_code 0 false (some .int) cd_29 0 = true := by decide +kernel
set_option maxRecDepth 1000000 in
theorem ck_30 : ckL prog_1_method_11_code 0 false (some .boolean) cd_30 0 = true := by decide +kernel
set_option maxRecDepth 1000000 in
theorem ck_31 : ckL prog_1_method_12_code 0 false (some .int) cd_31 0 = true := by decide +kernel
set_option maxRecDepth 1000000 in
theorem ck_32 : ckL prog_1_method_13_code 0 false (some .long) cd_32 0 = true := by decide +kernel
set_option maxRecDepth 1000000 in
theorem ck_33 : ckL prog_1_method_14_code 0 false (some .int) cd_33 0 = true := by decide +kernel
set_option maxRecDepth 1000000 in
theorem ck_34 : ckL prog_1_method_15_code 0 false (some .int) cd_34 0 = true := by decide +kernel
set_option maxRecDepth 1000000 in
theorem ck_35 : ckL prog_1_method_16_code 0 false (some .int) cd_35 0 = true := by decide +kernel
set_option maxRecDepth 1000000 in
theorem ck_36 : ckL prog_1_method_17_code 0 false (some .int) cd_36 0 = true := by decide +kernel
set_option maxRecDepth 1000000 in
theorem ck_37 : ckL prog_1_method_18_code 0 false (some .int) cd_37 0 = true := by decide +kernel
set_option maxRecDepth 1000000 in
theorem ck_38 : ckL prog_1_method_19_code 0 false (some .int) cd_38 0 = true := by decide +kernel
set_option maxRecDepth 1000000 in
theorem ck_39 : ckL prog_1_method_20_code 0 false (some .int) cd_39 0 = true := by decide +kernel
set_option maxRecDepth 1000000 in
theorem ck_40 : ckL prog_1_method_21_code 0 false (some .int) cd_40 0 = true := by decide +kernel
set_option maxRecDepth 1000000 in
theorem ck_41 : ckL prog_1_method_22_code 0 false (some .int) cd_41 0 = true := by decide +kernel
set_option maxRecDepth 1000000 in
theorem ck_42 : ckL prog_1_method_23_code 0 false (some .int) cd_42 0 = true := by decide +kernel
set_option maxRecDepth 1000000 in
theorem ck_43 : ckL prog_1_method_24_code 0 false (some .boolean) cd_43 0 = true := by decide +kernel
set_option maxRecDepth 1000000 in
theorem ck_44 : ckL prog_1_method_25_code 0 false (some .boolean) cd_44 0 = true := by decide +kernel
set_option maxRecDepth 1000000 in
theorem ck_45 : ckL prog_1_method_26_code 0 false (some .int) cd_45 0 = true := by decide +kernel
set_option maxRecDepth 1000000 in
theorem ck_46 : ckL prog_1_method_27_code 0 false (some .boolean) cd_46 0 = true := by decide +kernel
set_option maxRecDepth 1000000 in
theorem ck_47 : ckL prog_1_method_28_code 0 false (some .boolean) cd_47 0 = true := by decide +kernel
set_option maxRecDepth 1000000 in
theorem ck_48 : ckL prog_1_method_29_code 0 false (none) cd_48 0 = true := by decide +kernel
set_option maxRecDepth 1000000 in
theorem ck_49 : ckL prog_1_method_30_code 0 false (none) cd_49 0 = true := by decide +kernel
set_option maxRecDepth 1000000 in
theorem ck_50 : ckL prog_1_method_31_code 0 false (some .int) cd_50 0 = true := by decide +kernel
set_option maxRecDepth 1000000 in
theorem ck_51 : ckL prog_1_method_32_code 0 false (some .int) cd_51 0 = true := by decide +kernel
set_option maxRecDepth 1000000 in
theorem ck_52 : ckL prog_1_method_33_code 0 false (some .int) cd_52 0 = true := by decide +kernel
set_option maxRecDepth 1000000 in
theorem ck_53 : ckL prog_1_method_34_code 0 false (some .boolean) cd_53 0 = true := by decide +kernel
set_option maxRecDepth 1000000 in
theorem ck_54 : ckL prog_1_method_35_code 0 false (none) cd_54 0 = true := by decide +kernel
set_option maxRecDepth 1000000 in
theorem ck_55 : ckL prog_1_method_36_code 0 false (some .int) cd_55 0 = true := by decide +kernel
set_option maxRecDepth 1000000 in
theorem ck_56 : ckL prog_1_method_37_code 0 false (some .int) cd_56 0 = true := by decide +kernel
set_option maxRecDepth 1000000 in
theorem ck_57 : ckL prog_11_method_1_code 1 true (none) cd_57 0 = true := by decide +kernel
set_option maxRecDepth 1000000 in
theorem ck_58 : ckL prog_11_method_2_code 1 false (none) cd_58 0 = true := by decide +kernel
set_option maxRecDepth 1000000 in
theorem ck_59 : ckL prog_11_method_3_code 1 false (none) cd_59 0 = true := by decide +kernel
set_option maxRecDepth 1000000 in
theorem ck_60 : ckL prog_11_method_4_code 1 false (some .int) cd_60 0 = true := by decide +kernel
set_option maxRecDepth 1000000 in
theorem ck_61 : ckL prog_11_method_5_code 1 false (some .boolean) cd_61 0 = true := by decide +kernel
set_option maxRecDepth 1000000 in
theorem ck_62 : ckL prog_11_method_6_code 1 false (none) cd_62 0 = true := by decide +kernel
set_option maxRecDepth 1000000 in
theorem ck_63 : ckL prog_11_method_7_code 1 false (none) cd_63 0 = true := by decide +kernel
set_option maxRecDepth 1000000 in
theorem ck_64 : ckL prog_11_method_8_code 1 false (some .int) cd_64 0 = true := by decide +kernel
set_option maxRecDepth 1000000 in
theorem ck_65 : ckL prog_11_method_9_code 1 false (none) cd_65 0 = true := by decide +kernel
set_option maxRecDepth 1000000 in
theorem ck_66 : ckL prog_11_method_10_code 1 false (some .boolean) cd_66 0 = true := by decide +kernel
set_option maxRecDepth 1000000 in
theorem ck_67 : ckL prog_11_method_11_code 1 false (some .boolean) cd_67 0 = true := by decide +kernel
set_option maxRecDepth 1000000 in
theorem ck_68 : ckL prog_11_method_12_code 1 false (some .boolean) cd_68 0 = true := by decide +kernel
set_option maxRecDepth 1000000 in
theorem ck_69 : ckL prog_11_method_13_code 1 false (none) cd_69 0 = true := by decide +kernel
set_option maxRecDepth 1000000 in
theorem ck_70 : ckL prog_11_method_14_code 1 false (none) cd_70 0 = true := by decide +kernel
set_option maxRecDepth 1000000 in
theorem ck_71 : ckL prog_11_method_15_code 1 false (some .int) cd_71 0 = true := by decide +kernel
set_option maxRecDepth 1000000 in
theorem ck_72 : ckL prog_8_method_1_code 2 true (none) cd_72 0 = true := by decide +kernel
set_option maxRecDepth 1000000 in
theorem ck_73 : ckL prog_8_method_2_code 2 false (none) cd_73 0 = true := by decide +kernel
set_option maxRecDepth 1000000 in
theorem ck_74 : ckL prog_8_method_3_code 2 false (none) cd_74 0 = true := by decide +kernel
set_option maxRecDepth 1000000 in
theorem ck_75 : ckL prog_8_method_4_code 2 false (none) cd_75 0 = true := by decide +kernel
set_option maxRecDepth 1000000 in
theorem ck_76 : ckL prog_8_method_5_code 2 false (none) cd_76 0 = true := by decide +kernel
set_option maxRecDepth 1000000 in
theorem ck_77 : ckL prog_8_method_6_code 2 false (some .int) cd_77 0 = true := by decide +kernel
set_option maxRecDepth 1000000 in
theorem ck_78 : ckL prog_8_method_7_code 2 false (some .int) cd_78 0 = true := by decide +kernel
set_option maxRecDepth 1000000 in
theorem ck_79 : ckL prog_8_method_8_code 2 false (some .int) cd_79 0 = true := by decide +kernel
set_option maxRecDepth 1000000 in
theorem ck_80 : ckL prog_8_method_9_code 2 false (some .boolean) cd_80 0 = true := by decide +kernel
set_option maxRecDepth 1000000 in
theorem ck_81 : ckL prog_8_method_10_code 2 false (some .int) cd_81 0 = true := by decide +kernel
set_option maxRecDepth 1000000 in
theorem ck_82 : ckL prog_8_method_11_code 2 false (some .int) cd_82 0 = true := by decide +kernel
set_option maxRecDepth 1000000 in
theorem ck_83 : ckL prog_8_method_12_code 2 false (some .int) cd_83 0 = true := by decide +kernel
set_option maxRecDepth 1000000 in
theorem ck_84 : ckL prog_6_method_1_code 3 true (none) cd_84 0 = true := by decide +kernel
set_option maxRecDepth 1000000 in
theorem ck_85 : ckL prog_6_method_2_code 3 false (some .int) cd_85 0 = true := by decide +kernel
set_option maxRecDepth 1000000 in
theorem ck_86 : ckL prog_6_method_3_code 3 false (some .int) cd_86 0 = true := by decide +kernel
set_option maxRecDepth 1000000 in
theorem ck_87 : ckL prog_6_method_4_code 3 false (none) cd_87 0 = true := by decide +kernel
set_option maxRecDepth 1000000 in
theorem ck_88 : ckL prog_6_method_5_code 3 false (none) cd_88 0 = true := by decide +kernel
set_option maxRecDepth 1000000 in
theorem ck_89 : ckL prog_6_method_6_code 3 false (none) cd_89 0 = true := by decide +kernel
set_option maxRecDepth 1000000 in
theorem ck_90 : ckL prog_6_method_7_code 3 false (some .int) cd_90 0 = true := by decide +kernel
set_option maxRecDepth 1000000 in
theorem ck_91 : ckL prog_6_method_8_code 3 false (some .boolean) cd_91 0 = true := by decide +kernel
set_option maxRecDepth 1000000 in
theorem ck_92 : ckL prog_6_method_9_code 3 false (some .int) cd_92 0 = true := by decide +kernel
set_option maxRecDepth 1000000 in
theorem ck_93 : ckL prog_6_method_10_code 3 false (some .int) cd_93 0 = true := by decide +kernel
set_option maxRecDepth 1000000 in
theorem ck_94 : ckL prog_6_method_11_code 3 false (some .int) cd_94 0 = true := by decide +kernel
set_option maxRecDepth 1000000 in
theorem ck_95 : ckL prog_7_method_1_code 4 true (none) cd_95 0 = true := by decide +kernel
set_option maxRecDepth 1000000 in
theorem ck_96 : ckL prog_7_method_2_code 4 false (some .int) cd_96 0 = true := by decide +kernel
set_option maxRecDepth 1000000 in
theorem ck_97 : ckL prog_7_method_3_code 4 false (none) cd_97 0 = true := by decide +kernel
set_option maxRecDepth 1000000 in
theorem ck_98 : ckL prog_7_method_4_code 4 false (none) cd_98 0 = true := by decide +kernel
set_option maxRecDepth 1000000 in
theorem ck_99 : ckL prog_7_method_5_code 4 false (none) cd_99 0 = true := by decide +kernel
