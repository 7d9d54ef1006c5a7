/-! the straight runs -/
def fz1_0_3_5s : List fo_C := [(1, 0, 0, 0), (2, 0, 2, 0), (3, 0, 0, 5)]
def fz1_8_5_17s : List fo_C := [(1, 0, 0, 0), (2, 0, 0, 0), (1, 0, 0, 0), (2, 0, 2, 0), (0, 1, 0, 0)]
def fz1_18_5_27s : List fo_C := [(1, 0, 0, 0), (2, 0, 1, 0), (1, 0, 0, 0), (2, 0, 2, 0), (0, 2, 0, 0)]
def fz1_28_6_38s : List fo_C := [(1, 0, 0, 0), (9, 0, 0, 0), (2, 0, 2, 0), (3, 0, 0, 1), (4, 0, 0, 0), (6, 0, 2, 0)]
def fz2_0_2_4s : List fo_C := [(1, 0, 0, 0), (2, 0, 2, 0)]
def fz2_7_14_31s : List fo_C := [(1, 0, 0, 0), (9, 0, 0, 0), (2, 0, 2, 0), (3, 0, 0, 1), (7, 0, 0, 0), (6, 0, 2, 0), (1, 0, 0, 0), (2, 0, 0, 0), (3, 0, 0, 1), (1, 0, 0, 0), (2, 0, 0, 0), (3, 0, 0, 0), (1, 0, 0, 0), (2, 0, 2, 0)]
def fz2_34_8_48s : List fo_C := [(1, 0, 0, 0), (2, 0, 1, 0), (3, 0, 0, 1), (1, 0, 0, 0), (2, 0, 1, 0), (3, 0, 0, 0), (1, 0, 0, 0), (2, 0, 2, 0)]
def fz26_0_1_1s : List fo_C := [(0, 1, 0, 0)]
def fz26_28_2_32s : List fo_C := [(1, 0, 0, 0), (2, 4, 1, 0)]
def fz26_33_2_37s : List fo_C := [(1, 0, 0, 0), (2, 4, 2, 0)]
def fz26_38_2_42s : List fo_C := [(1, 0, 0, 0), (2, 4, 3, 0)]
def fz26_43_2_47s : List fo_C := [(1, 0, 0, 0), (2, 4, 4, 0)]
def fz27_0_1_1s : List fo_C := [(0, 2, 0, 0)]
def fz27_28_2_32s : List fo_C := [(1, 0, 0, 0), (2, 4, 6, 0)]
def fz27_33_2_37s : List fo_C := [(1, 0, 0, 0), (2, 4, 7, 0)]
def fz27_38_2_42s : List fo_C := [(1, 0, 0, 0), (2, 4, 8, 0)]
def fz27_43_2_45s : List fo_C := [(1, 0, 0, 0), (0, 1, 0, 0)]
def fz27_48_2_62s : List fo_C := [(15, 1, 0, 0), (3, 0, 0, (-1))]
def fz27_48_3_53s : List fo_C := [(15, 0, 0, 0), (1, 0, 0, 0), (0, 2, 0, 0)]
def fz27_56_1_57s : List fo_C := [(0, 1, 0, 0)]
def fz27_58_1_62s : List fo_C := [(14, 0, 0, 0)]
def fz27_61_1_62s : List fo_C := [(3, 0, 0, (-1))]
def fz29_0_11_18s : List fo_C := [(1, 0, 0, 0), (3, 0, 0, 8), (6, 4, 14, 0), (1, 0, 0, 0), (3, 0, 0, 0), (6, 4, 15, 0), (1, 0, 0, 0), (3, 0, 0, 0), (6, 4, 16, 0), (1, 0, 0, 0), (0, 1, 0, 0)]
def fz29_21_2_42s : List fo_C := [(15, 1, 0, 0), (3, 0, 0, 0)]
def fz29_21_3_28s : List fo_C := [(15, 0, 0, 0), (1, 0, 0, 0), (2, 4, 7, 0)]
def fz29_31_3_36s : List fo_C := [(1, 0, 0, 0), (2, 4, 4, 0), (0, 1, 0, 0)]
def fz29_37_1_38s : List fo_C := [(3, 0, 0, 1)]
def fz29_41_1_42s : List fo_C := [(3, 0, 0, 0)]
def fz29_43_3_48s : List fo_C := [(1, 0, 0, 0), (2, 4, 1, 0), (0, 1, 0, 0)]
def fz29_49_3_52s : List fo_C := [(5, 2, 0, 0), (3, 0, 0, 0), (5, 3, 0, 0)]
def fz29_50_2_52s : List fo_C := [(3, 0, 0, 0), (5, 3, 0, 0)]
def fz29_52_2_54s : List fo_C := [(0, 3, 0, 0), (3, 0, 0, 5)]
def fz29_57_5_68s : List fo_C := [(1, 0, 0, 0), (2, 4, 10, 0), (2, 0, 2, 0), (1, 0, 0, 0), (2, 4, 6, 0)]
def fz29_71_2_73s : List fo_C := [(1, 0, 0, 0), (0, 1, 0, 0)]
def fz29_76_2_52s : List fo_C := [(10, 3, 0, 1), (14, 0, 0, 0)]
def fz29_82_4_86s : List fo_C := [(1, 0, 0, 0), (1, 0, 0, 0), (0, 1, 0, 0), (0, 2, 0, 0)]
def fz29_89_6_101s : List fo_C := [(6, 4, 16, 0), (1, 0, 0, 0), (2, 4, 10, 0), (0, 1, 0, 0), (1, 0, 0, 0), (2, 4, 16, 0)]
def fz29_104_10_120s : List fo_C := [(1, 0, 0, 0), (9, 0, 0, 0), (2, 4, 9, 0), (3, 0, 0, 1), (4, 0, 0, 0), (6, 4, 9, 0), (1, 0, 0, 0), (2, 4, 5, 0), (0, 1, 0, 0), (11, 0, 0, 0)]
def fz29_121_2_123s : List fo_C := [(3, 0, 0, 1), (4, 0, 0, 0)]
def fz29_124_4_130s : List fo_C := [(1, 0, 0, 0), (2, 4, 12, 0), (3, 0, 0, 0), (11, 0, 0, 0)]
def fz29_131_2_133s : List fo_C := [(3, 0, 0, 1), (4, 0, 0, 0)]
def fz29_134_4_140s : List fo_C := [(1, 0, 0, 0), (2, 4, 12, 0), (3, 0, 0, 1), (11, 0, 0, 0)]
def fz29_141_3_146s : List fo_C := [(1, 0, 0, 0), (2, 4, 15, 0), (4, 0, 0, 0)]
def fz29_147_2_151s : List fo_C := [(1, 0, 0, 0), (2, 4, 15, 0)]
def fz30_0_4_8s : List fo_C := [(1, 0, 0, 0), (2, 4, 10, 0), (2, 0, 0, 0), (3, 0, 0, 0)]
def fz30_9_5_18s : List fo_C := [(5, 2, 0, 0), (1, 0, 0, 0), (2, 4, 10, 0), (2, 0, 1, 0), (3, 0, 0, 0)]
def fz30_19_3_24s : List fo_C := [(5, 3, 0, 0), (1, 0, 0, 0), (2, 4, 10, 0)]
def fz30_27_3_33s : List fo_C := [(1, 0, 0, 0), (2, 4, 14, 0), (3, 0, 0, 8)]
def fz30_36_5_43s : List fo_C := [(1, 0, 0, 0), (0, 2, 0, 0), (6, 4, 14, 0), (0, 2, 0, 0), (0, 1, 0, 0)]
def fz30_41_2_43s : List fo_C := [(0, 2, 0, 0), (0, 1, 0, 0)]
def fz30_46_2_48s : List fo_C := [(1, 0, 0, 0), (0, 2, 0, 0)]
def fz30_51_1_54s : List fo_C := [(15, 0, 1, 0)]
def fz30_51_5_61s : List fo_C := [(15, 1, 1, 0), (0, 3, 0, 0), (1, 0, 0, 0), (2, 4, 1, 0), (0, 2, 0, 0)]
def fz30_65_5_73s : List fo_C := [(5, 4, 0, 0), (1, 0, 0, 0), (2, 4, 1, 0), (0, 2, 0, 0), (11, 0, 0, 0)]
def fz30_74_2_77s : List fo_C := [(0, 4, 0, 0), (7, 0, 0, 0)]
def fz30_78_7_91s : List fo_C := [(1, 0, 0, 0), (2, 4, 1, 0), (0, 1, 0, 0), (3, 0, 0, 999), (1, 0, 0, 0), (2, 4, 1, 0), (0, 1, 0, 0)]
def fz30_92_2_95s : List fo_C := [(0, 4, 0, 0), (4, 0, 0, 0)]
def fz30_99_10_116s : List fo_C := [(1, 0, 0, 0), (9, 0, 0, 0), (2, 4, 15, 0), (0, 4, 0, 0), (4, 0, 0, 0), (6, 4, 15, 0), (1, 0, 0, 0), (2, 4, 12, 0), (3, 0, 0, 2), (11, 0, 0, 0)]
def fz30_117_4_122s : List fo_C := [(0, 3, 0, 0), (0, 4, 0, 0), (7, 0, 0, 0), (4, 0, 0, 0)]
def fz30_123_3_128s : List fo_C := [(1, 0, 0, 0), (2, 4, 13, 0), (0, 2, 0, 0)]
def fz30_129_2_131s : List fo_C := [(0, 1, 0, 0), (11, 0, 0, 0)]
def fz30_132_2_135s : List fo_C := [(0, 4, 0, 0), (4, 0, 0, 0)]
def fz32_0_6_9s : List fo_C := [(1, 0, 0, 0), (3, 0, 0, 99), (1, 0, 0, 0), (2, 4, 8, 0), (3, 0, 0, 1), (4, 0, 0, 0)]
def fz32_12_6_22s : List fo_C := [(6, 4, 8, 0), (1, 0, 0, 0), (3, 0, 0, 0), (6, 4, 9, 0), (3, 0, 0, 0), (5, 1, 0, 0)]
def fz32_20_2_22s : List fo_C := [(3, 0, 0, 0), (5, 1, 0, 0)]
def fz32_22_2_25s : List fo_C := [(0, 1, 0, 0), (3, 0, 0, 8)]
def fz32_28_4_34s : List fo_C := [(1, 0, 0, 0), (2, 4, 5, 0), (0, 1, 0, 0), (3, 0, 0, 0)]
def fz32_35_2_22s : List fo_C := [(10, 1, 0, 1), (14, 0, 0, 0)]
def fz32_41_4_47s : List fo_C := [(1, 0, 0, 0), (2, 4, 12, 0), (3, 0, 0, 3), (11, 0, 0, 0)]
def fz32_48_2_50s : List fo_C := [(3, 0, 0, 1), (4, 0, 0, 0)]
def fz59_0_3_5s : List fo_C := [(1, 0, 0, 0), (2, 7, 0, 0), (1, 1, 0, 0)]
def fz59_8_1_9s : List fo_C := [(1, 0, 0, 0)]
def fz60_0_2_2s : List fo_C := [(3, 0, 0, 0), (5, 1, 0, 0)]
def fz60_2_3_7s : List fo_C := [(0, 1, 0, 0), (1, 0, 0, 0), (2, 7, 2, 0)]
def fz60_10_2_13s : List fo_C := [(0, 1, 0, 0), (3, 0, 0, 20)]
def fz60_16_8_30s : List fo_C := [(1, 0, 0, 0), (2, 7, 4, 0), (0, 1, 0, 0), (1, 0, 0, 0), (2, 7, 0, 0), (1, 0, 0, 0), (2, 7, 1, 0), (0, 1, 0, 0)]
def fz60_35_6_47s : List fo_C := [(1, 0, 0, 0), (2, 7, 3, 0), (0, 1, 0, 0), (1, 0, 0, 0), (2, 7, 0, 0), (2, 4, 14, 0)]
def fz60_48_6_60s : List fo_C := [(1, 0, 0, 0), (2, 7, 5, 0), (0, 1, 0, 0), (1, 0, 0, 0), (2, 7, 0, 0), (2, 4, 16, 0)]
def fz60_61_2_2s : List fo_C := [(10, 1, 0, 1), (14, 0, 0, 0)]
def fz61_0_3_5s : List fo_C := [(1, 0, 0, 0), (2, 7, 0, 0), (1, 1, 0, 0)]
def fz61_8_2_10s : List fo_C := [(3, 0, 0, 0), (5, 3, 0, 0)]
def fz61_10_2_12s : List fo_C := [(0, 3, 0, 0), (0, 2, 0, 0)]
def fz61_15_1_16s : List fo_C := [(0, 3, 0, 0)]
def fz61_19_2_23s : List fo_C := [(1, 0, 0, 0), (2, 7, 0, 0)]
def fz61_26_1_27s : List fo_C := [(1, 0, 0, 0)]
def fz61_30_2_10s : List fo_C := [(10, 3, 0, 1), (14, 0, 0, 0)]
def fz62_0_3_5s : List fo_C := [(1, 0, 0, 0), (2, 7, 0, 0), (0, 1, 0, 0)]
def fz62_8_5_19s : List fo_C := [(15, 0, 0, 0), (1, 0, 0, 0), (2, 7, 0, 0), (2, 4, 1, 0), (0, 1, 0, 0)]
def fz62_8_5_31s : List fo_C := [(15, 1, 0, 0), (1, 0, 0, 0), (2, 7, 0, 0), (2, 4, 12, 0), (3, 0, 0, 2)]
def fz62_20_1_32s : List fo_C := [(14, 0, 0, 0)]
def fz63_0_3_5s : List fo_C := [(1, 0, 0, 0), (2, 7, 0, 0), (1, 1, 0, 0)]
def fz63_8_2_10s : List fo_C := [(3, 0, 0, 0), (5, 3, 0, 0)]
def fz63_10_3_15s : List fo_C := [(0, 3, 0, 0), (1, 0, 0, 0), (2, 7, 2, 0)]
def fz63_18_2_21s : List fo_C := [(0, 3, 0, 0), (3, 0, 0, 20)]
def fz63_24_5_33s : List fo_C := [(1, 0, 0, 0), (2, 7, 0, 0), (1, 0, 0, 0), (2, 7, 1, 0), (0, 3, 0, 0)]
def fz63_37_3_10s : List fo_C := [(21, 0, 0, 0), (10, 3, 0, 1), (14, 0, 0, 0)]
def fz63_38_2_10s : List fo_C := [(10, 3, 0, 1), (14, 0, 0, 0)]
def fz63_44_4_50s : List fo_C := [(1, 0, 0, 0), (2, 7, 0, 0), (0, 2, 0, 0), (3, 0, 0, 0)]
def fz64_0_3_5s : List fo_C := [(1, 0, 0, 0), (2, 7, 1, 0), (0, 1, 0, 0)]
def fz64_6_7_17s : List fo_C := [(5, 3, 0, 0), (1, 0, 0, 0), (2, 7, 1, 0), (0, 1, 0, 0), (1, 0, 0, 0), (2, 7, 1, 0), (0, 2, 0, 0)]
def fz64_19_4_25s : List fo_C := [(1, 0, 0, 0), (2, 7, 1, 0), (0, 2, 0, 0), (0, 3, 0, 0)]
def fz65_0_3_6s : List fo_C := [(1, 0, 0, 0), (2, 7, 2, 0), (3, 0, 0, 20)]
def fz65_9_1_10s : List fo_C := [(0, 1, 0, 0)]
def fz65_13_3_18s : List fo_C := [(0, 1, 0, 0), (1, 0, 0, 0), (2, 7, 2, 0)]
def fz65_21_12_39s : List fo_C := [(1, 0, 0, 0), (2, 7, 1, 0), (0, 1, 0, 0), (1, 0, 0, 0), (2, 7, 1, 0), (0, 1, 0, 0), (3, 0, 0, 1), (4, 0, 0, 0), (1, 0, 0, 0), (2, 7, 2, 0), (0, 1, 0, 0), (7, 0, 0, 0)]
def fz65_42_4_48s : List fo_C := [(1, 0, 0, 0), (2, 7, 1, 0), (0, 1, 0, 0), (0, 2, 0, 0)]
def fz65_49_6_59s : List fo_C := [(1, 0, 0, 0), (9, 0, 0, 0), (2, 7, 2, 0), (3, 0, 0, 1), (4, 0, 0, 0), (6, 7, 2, 0)]
def fz66_0_8_10s : List fo_C := [(3, 0, 0, 0), (5, 3, 0, 0), (1, 0, 0, 0), (3, 0, 0, (-1)), (6, 7, 6, 0), (1, 0, 0, 0), (3, 0, 0, 0), (0, 2, 0, 0)]
def fz66_13_2_16s : List fo_C := [(3, 0, 0, 0), (5, 4, 0, 0)]
def fz66_16_3_22s : List fo_C := [(0, 4, 0, 0), (1, 0, 0, 0), (2, 7, 2, 0)]
def fz66_25_3_28s : List fo_C := [(1, 0, 0, 0), (1, 1, 0, 0), (0, 2, 0, 0)]
def fz66_31_4_39s : List fo_C := [(5, 5, 0, 0), (0, 5, 0, 0), (1, 0, 0, 0), (2, 7, 6, 0)]
def fz66_42_10_59s : List fo_C := [(1, 0, 0, 0), (0, 5, 0, 0), (6, 7, 6, 0), (0, 4, 0, 0), (5, 3, 0, 0), (0, 4, 0, 0), (3, 0, 0, 1), (4, 0, 0, 0), (1, 0, 0, 0), (2, 7, 2, 0)]
def fz66_51_5_59s : List fo_C := [(0, 4, 0, 0), (3, 0, 0, 1), (4, 0, 0, 0), (1, 0, 0, 0), (2, 7, 2, 0)]
def fz66_62_5_69s : List fo_C := [(1, 0, 0, 0), (0, 4, 0, 0), (0, 4, 0, 0), (3, 0, 0, 1), (4, 0, 0, 0)]
def fz66_72_2_16s : List fo_C := [(10, 4, 0, 1), (14, 0, 0, 0)]
def fz66_78_1_79s : List fo_C := [(0, 3, 0, 0)]
def fz67_0_8_11s : List fo_C := [(3, 0, 0, 0), (5, 4, 0, 0), (1, 0, 0, 0), (3, 0, 0, (-1)), (6, 7, 6, 0), (1, 0, 0, 0), (0, 2, 0, 0), (3, 0, 0, 0)]
def fz67_14_2_17s : List fo_C := [(3, 0, 0, 0), (5, 5, 0, 0)]
def fz67_17_3_23s : List fo_C := [(0, 5, 0, 0), (1, 1, 0, 0), (2, 4, 0, 0)]
def fz67_26_4_33s : List fo_C := [(1, 0, 0, 0), (2, 7, 1, 0), (0, 2, 0, 0), (0, 5, 0, 0)]
def fz67_34_3_37s : List fo_C := [(1, 0, 0, 0), (1, 1, 0, 0), (0, 3, 0, 0)]
def fz67_40_4_48s : List fo_C := [(5, 6, 0, 0), (0, 6, 0, 0), (1, 0, 0, 0), (2, 7, 6, 0)]
def fz67_51_7_17s : List fo_C := [(1, 0, 0, 0), (0, 6, 0, 0), (6, 7, 6, 0), (0, 5, 0, 0), (5, 4, 0, 0), (10, 5, 0, 1), (14, 0, 0, 0)]
def fz67_61_2_17s : List fo_C := [(10, 5, 0, 1), (14, 0, 0, 0)]
def fz67_67_1_69s : List fo_C := [(0, 4, 0, 0)]
def fz68_0_6_7s : List fo_C := [(3, 0, 0, (-2)), (5, 3, 0, 0), (1, 0, 0, 0), (1, 0, 0, 0), (1, 1, 0, 0), (0, 2, 0, 0)]
def fz68_10_3_16s : List fo_C := [(6, 7, 6, 0), (3, 0, 0, 0), (5, 4, 0, 0)]
def fz68_13_2_16s : List fo_C := [(3, 0, 0, 0), (5, 4, 0, 0)]
def fz68_16_5_24s : List fo_C := [(0, 4, 0, 0), (3, 0, 0, 1), (4, 0, 0, 0), (1, 0, 0, 0), (2, 7, 2, 0)]
def fz68_27_5_34s : List fo_C := [(1, 0, 0, 0), (0, 4, 0, 0), (0, 4, 0, 0), (3, 0, 0, 1), (4, 0, 0, 0)]
def fz68_37_3_40s : List fo_C := [(1, 0, 0, 0), (1, 1, 0, 0), (0, 2, 0, 0)]
def fz68_43_6_52s : List fo_C := [(5, 5, 0, 0), (1, 0, 0, 0), (0, 4, 0, 0), (0, 4, 0, 0), (3, 0, 0, 1), (4, 0, 0, 0)]
def fz68_55_3_61s : List fo_C := [(0, 5, 0, 0), (1, 0, 0, 0), (2, 7, 6, 0)]
def fz68_64_7_16s : List fo_C := [(1, 0, 0, 0), (0, 5, 0, 0), (6, 7, 6, 0), (0, 4, 0, 0), (5, 3, 0, 0), (10, 4, 0, 1), (14, 0, 0, 0)]
def fz68_72_3_16s : List fo_C := [(5, 3, 0, 0), (10, 4, 0, 1), (14, 0, 0, 0)]
def fz68_73_2_16s : List fo_C := [(10, 4, 0, 1), (14, 0, 0, 0)]
def fz68_79_1_80s : List fo_C := [(0, 3, 0, 0)]
def fz69_0_5_8s : List fo_C := [(1, 0, 0, 0), (3, 0, 0, 0), (6, 7, 2, 0), (3, 0, 0, 0), (5, 4, 0, 0)]
def fz69_5_2_8s : List fo_C := [(3, 0, 0, 0), (5, 4, 0, 0)]
def fz69_8_2_12s : List fo_C := [(0, 4, 0, 0), (3, 0, 0, 8)]
def fz69_15_3_20s : List fo_C := [(1, 0, 0, 0), (2, 7, 2, 0), (3, 0, 0, 5)]
def fz69_33_5_43s : List fo_C := [(1, 0, 0, 0), (2, 7, 1, 0), (1, 0, 0, 0), (2, 7, 2, 0), (0, 4, 0, 0)]
def fz69_44_8_8s : List fo_C := [(1, 0, 0, 0), (9, 0, 0, 0), (2, 7, 2, 0), (3, 0, 0, 1), (4, 0, 0, 0), (6, 7, 2, 0), (10, 4, 0, 1), (14, 0, 0, 0)]
def fz69_49_5_8s : List fo_C := [(3, 0, 0, 1), (4, 0, 0, 0), (6, 7, 2, 0), (10, 4, 0, 1), (14, 0, 0, 0)]
def fz69_54_2_8s : List fo_C := [(10, 4, 0, 1), (14, 0, 0, 0)]
def fz69_60_7_71s : List fo_C := [(1, 0, 0, 0), (3, 0, 0, (-1)), (6, 7, 6, 0), (3, 0, 0, 1), (5, 4, 0, 0), (3, 0, 0, 0), (5, 5, 0, 0)]
def fz69_66_3_71s : List fo_C := [(5, 4, 0, 0), (3, 0, 0, 0), (5, 5, 0, 0)]
def fz69_71_2_75s : List fo_C := [(0, 5, 0, 0), (3, 0, 0, 120)]
def fz69_78_1_80s : List fo_C := [(0, 4, 0, 0)]
def fz69_83_3_86s : List fo_C := [(1, 0, 0, 0), (1, 1, 0, 0), (0, 3, 0, 0)]
def fz69_89_4_97s : List fo_C := [(5, 6, 0, 0), (0, 6, 0, 0), (1, 0, 0, 0), (2, 7, 6, 0)]
def fz69_100_11_120s : List fo_C := [(1, 0, 0, 0), (0, 6, 0, 0), (6, 7, 6, 0), (1, 0, 0, 0), (2, 7, 1, 0), (3, 0, 0, 0), (1, 0, 0, 0), (2, 7, 7, 0), (3, 0, 0, 0), (1, 0, 0, 0), (2, 7, 2, 0)]
def fz69_123_1_124s : List fo_C := [(1, 0, 0, 0)]
def fz69_127_3_71s : List fo_C := [(5, 4, 0, 0), (10, 5, 0, 1), (14, 0, 0, 0)]
def fz70_0_5_7s : List fo_C := [(1, 0, 0, 0), (2, 7, 2, 0), (3, 0, 0, 2), (7, 0, 0, 0), (5, 1, 0, 0)]
def fz70_5_2_7s : List fo_C := [(7, 0, 0, 0), (5, 1, 0, 0)]
def fz70_7_1_8s : List fo_C := [(0, 1, 0, 0)]
def fz70_11_3_16s : List fo_C := [(1, 0, 0, 0), (2, 7, 1, 0), (0, 1, 0, 0)]
def fz70_17_5_24s : List fo_C := [(1, 0, 0, 0), (2, 7, 1, 0), (0, 1, 0, 0), (3, 0, 0, 1), (4, 0, 0, 0)]
def fz70_28_2_7s : List fo_C := [(10, 1, 0, (-1)), (14, 0, 0, 0)]
def fz70_34_1_35s : List fo_C := [(0, 1, 0, 0)]
def fz70_38_1_39s : List fo_C := [(3, 0, 0, 0)]
def fz70_40_5_47s : List fo_C := [(1, 0, 0, 0), (2, 7, 2, 0), (3, 0, 0, 1), (7, 0, 0, 0), (5, 2, 0, 0)]
def fz70_45_2_47s : List fo_C := [(7, 0, 0, 0), (5, 2, 0, 0)]
def fz70_47_2_49s : List fo_C := [(0, 2, 0, 0), (0, 1, 0, 0)]
def fz70_52_3_57s : List fo_C := [(1, 0, 0, 0), (2, 7, 1, 0), (0, 2, 0, 0)]
def fz70_58_3_63s : List fo_C := [(1, 0, 0, 0), (2, 7, 1, 0), (0, 1, 0, 0)]
def fz70_67_2_47s : List fo_C := [(10, 2, 0, (-1)), (14, 0, 0, 0)]
def fz70_73_3_76s : List fo_C := [(1, 0, 0, 0), (0, 1, 0, 0), (0, 2, 0, 0)]
def fz70_79_9_91s : List fo_C := [(1, 0, 0, 0), (2, 7, 2, 0), (3, 0, 0, 1), (7, 0, 0, 0), (5, 3, 0, 0), (0, 1, 0, 0), (3, 0, 0, 1), (4, 0, 0, 0), (5, 4, 0, 0)]
def fz70_87_3_91s : List fo_C := [(3, 0, 0, 1), (4, 0, 0, 0), (5, 4, 0, 0)]
def fz70_91_2_94s : List fo_C := [(0, 4, 0, 0), (0, 3, 0, 0)]
def fz70_97_3_101s : List fo_C := [(1, 0, 0, 0), (0, 4, 0, 0), (0, 3, 0, 0)]
def fz70_104_3_91s : List fo_C := [(10, 3, 0, (-1)), (10, 4, 0, 1), (14, 0, 0, 0)]
def fz70_113_1_114s : List fo_C := [(3, 0, 0, 1)]
def fz71_0_2_2s : List fo_C := [(3, 0, 0, 0), (5, 1, 0, 0)]
def fz71_2_2_5s : List fo_C := [(0, 1, 0, 0), (3, 0, 0, 8)]
def fz71_8_2_10s : List fo_C := [(3, 0, 0, 0), (5, 2, 0, 0)]
def fz71_10_2_13s : List fo_C := [(0, 2, 0, 0), (3, 0, 0, 8)]
def fz71_16_3_21s : List fo_C := [(1, 0, 0, 0), (2, 7, 9, 0), (0, 1, 0, 0)]
def fz71_22_3_25s : List fo_C := [(0, 2, 0, 0), (0, 1, 0, 0), (0, 2, 0, 0)]
def fz71_28_4_36s : List fo_C := [(1, 0, 0, 0), (2, 7, 0, 0), (2, 4, 13, 0), (0, 1, 0, 0)]
def fz71_37_1_38s : List fo_C := [(0, 2, 0, 0)]
def fz71_39_2_49s : List fo_C := [(15, 1, 5, 0), (3, 0, 0, 1000)]
def fz71_42_2_49s : List fo_C := [(3, 0, 0, 1), (14, 0, 0, 0)]
def fz71_43_1_49s : List fo_C := [(14, 0, 0, 0)]
def fz71_46_1_49s : List fo_C := [(3, 0, 0, 1000)]
def fz71_50_2_10s : List fo_C := [(10, 2, 0, 1), (14, 0, 0, 0)]
def fz71_56_2_2s : List fo_C := [(10, 1, 0, 1), (14, 0, 0, 0)]
def fz71_62_2_64s : List fo_C := [(3, 0, 0, 0), (5, 1, 0, 0)]
def fz71_64_2_67s : List fo_C := [(0, 1, 0, 0), (3, 0, 0, 8)]
def fz71_70_2_72s : List fo_C := [(3, 0, 0, 0), (5, 2, 0, 0)]
def fz71_72_2_75s : List fo_C := [(0, 2, 0, 0), (3, 0, 0, 8)]
def fz71_78_2_80s : List fo_C := [(3, 0, 0, 0), (5, 3, 0, 0)]
def fz71_80_2_83s : List fo_C := [(0, 3, 0, 0), (3, 0, 0, 8)]
def fz71_86_3_91s : List fo_C := [(1, 0, 0, 0), (2, 7, 9, 0), (0, 2, 0, 0)]
def fz71_92_4_98s : List fo_C := [(0, 3, 0, 0), (1, 0, 0, 0), (2, 7, 9, 0), (0, 2, 0, 0)]
def fz71_99_1_100s : List fo_C := [(0, 3, 0, 0)]
def fz71_101_3_106s : List fo_C := [(1, 0, 0, 0), (2, 7, 9, 0), (0, 2, 0, 0)]
def fz71_107_1_108s : List fo_C := [(0, 1, 0, 0)]
def fz71_109_3_114s : List fo_C := [(1, 0, 0, 0), (2, 7, 9, 0), (0, 1, 0, 0)]
def fz71_115_1_116s : List fo_C := [(0, 3, 0, 0)]
def fz71_117_1_118s : List fo_C := [(4, 0, 0, 0)]
def fz71_122_2_80s : List fo_C := [(10, 3, 0, 1), (14, 0, 0, 0)]
def fz71_128_2_72s : List fo_C := [(10, 2, 0, 1), (14, 0, 0, 0)]
def fz71_134_2_64s : List fo_C := [(10, 1, 0, 1), (14, 0, 0, 0)]
def fz71_140_4_146s : List fo_C := [(3, 0, 0, 1000), (5, 1, 0, 0), (3, 0, 0, 0), (5, 2, 0, 0)]
def fz71_143_3_146s : List fo_C := [(5, 1, 0, 0), (3, 0, 0, 0), (5, 2, 0, 0)]
def fz71_146_2_149s : List fo_C := [(0, 2, 0, 0), (3, 0, 0, 8)]
def fz71_152_4_158s : List fo_C := [(0, 1, 0, 0), (1, 0, 0, 0), (2, 7, 9, 0), (0, 2, 0, 0)]
def fz71_159_1_160s : List fo_C := [(0, 2, 0, 0)]
def fz71_164_3_146s : List fo_C := [(5, 1, 0, 0), (10, 2, 0, 1), (14, 0, 0, 0)]
def fz71_171_2_175s : List fo_C := [(0, 1, 0, 0), (3, 0, 0, 1000)]
def fz71_178_2_184s : List fo_C := [(0, 1, 0, 0), (14, 0, 0, 0)]
def fz71_179_1_184s : List fo_C := [(14, 0, 0, 0)]
def fz71_182_1_184s : List fo_C := [(3, 0, 0, (-2))]
def fz72_0_6_8s : List fo_C := [(3, 0, 0, (-2)), (5, 2, 0, 0), (3, 0, 0, 0), (5, 3, 0, 0), (3, 0, 0, 0), (5, 4, 0, 0)]
def fz72_5_2_8s : List fo_C := [(3, 0, 0, 0), (5, 4, 0, 0)]
def fz72_8_3_14s : List fo_C := [(0, 4, 0, 0), (1, 1, 0, 0), (2, 4, 0, 0)]
def fz72_17_4_26s : List fo_C := [(1, 0, 0, 0), (2, 7, 0, 0), (2, 4, 1, 0), (0, 4, 0, 0)]
def fz72_27_3_33s : List fo_C := [(1, 1, 0, 0), (2, 4, 1, 0), (0, 4, 0, 0)]
def fz72_34_4_40s : List fo_C := [(7, 0, 0, 0), (5, 5, 0, 0), (0, 2, 0, 0), (3, 0, 0, (-2))]
def fz72_43_2_46s : List fo_C := [(0, 5, 0, 0), (0, 3, 0, 0)]
def fz72_49_6_8s : List fo_C := [(0, 4, 0, 0), (5, 2, 0, 0), (0, 5, 0, 0), (5, 3, 0, 0), (10, 4, 0, 1), (14, 0, 0, 0)]
def fz72_55_2_8s : List fo_C := [(10, 4, 0, 1), (14, 0, 0, 0)]
def fz72_61_1_62s : List fo_C := [(0, 2, 0, 0)]
def fz88_0_3_3s : List fo_C := [(0, 3, 0, 0), (3, 0, 0, 0), (3, 0, 0, 3)]
def fz88_6_2_30s : List fo_C := [(15, 1, 0, 0), (3, 0, 0, (-1))]
def fz88_6_3_11s : List fo_C := [(15, 0, 0, 0), (0, 3, 0, 0), (3, 0, 0, 3)]
def fz88_14_2_16s : List fo_C := [(1, 0, 0, 0), (0, 2, 0, 0)]
def fz88_19_3_33s : List fo_C := [(15, 1, 1, 0), (1, 0, 0, 0), (0, 1, 0, 0)]
def fz88_19_3_30s : List fo_C := [(15, 0, 1, 0), (14, 0, 0, 0), (3, 0, 0, (-1))]
def fz88_22_2_30s : List fo_C := [(14, 0, 0, 0), (3, 0, 0, (-1))]
def fz88_25_1_26s : List fo_C := [(0, 2, 0, 0)]
def fz88_25_3_30s : List fo_C := [(0, 2, 0, 0), (15, 0, 0, 0), (3, 0, 0, (-1))]
def fz88_26_2_30s : List fo_C := [(15, 0, 0, 0), (3, 0, 0, (-1))]
def fz88_26_3_33s : List fo_C := [(15, 1, 0, 0), (1, 0, 0, 0), (0, 1, 0, 0)]
def fz88_29_1_30s : List fo_C := [(3, 0, 0, (-1))]
def fz88_31_2_33s : List fo_C := [(1, 0, 0, 0), (0, 1, 0, 0)]
def fz88_36_2_40s : List fo_C := [(5, 4, 0, 0), (0, 4, 0, 0)]
def fz88_43_1_45s : List fo_C := [(0, 4, 0, 0)]
def fz88_46_4_54s : List fo_C := [(1, 0, 0, 0), (2, 8, 3, 0), (1, 0, 0, 0), (2, 8, 0, 0)]
def fz88_57_1_58s : List fo_C := [(0, 3, 0, 0)]
def fz88_92_5_103s : List fo_C := [(1, 0, 0, 0), (2, 8, 3, 0), (2, 7, 0, 0), (2, 4, 12, 0), (3, 0, 0, 2)]
def fz88_119_5_128s : List fo_C := [(1, 0, 0, 0), (2, 8, 3, 0), (2, 7, 0, 0), (0, 2, 0, 0), (3, 0, 0, 0)]
def fz89_0_1_1s : List fo_C := [(0, 2, 0, 0)]
def fz89_1_2_14s : List fo_C := [(15, 1, 2, 0), (3, 0, 0, (-1))]
def fz89_4_3_7s : List fo_C := [(0, 3, 0, 0), (3, 0, 0, 0), (3, 0, 0, 2)]
def fz89_10_2_14s : List fo_C := [(15, 0, 1, 0), (3, 0, 0, (-1))]
def fz89_10_3_17s : List fo_C := [(15, 1, 1, 0), (1, 0, 0, 0), (0, 1, 0, 0)]
def fz89_13_1_14s : List fo_C := [(3, 0, 0, (-1))]
def fz89_20_2_24s : List fo_C := [(5, 4, 0, 0), (0, 4, 0, 0)]
def fz89_27_1_29s : List fo_C := [(0, 4, 0, 0)]
def fz89_30_4_38s : List fo_C := [(0, 2, 0, 0), (1, 0, 0, 0), (2, 8, 3, 0), (2, 7, 2, 0)]
def fz89_41_1_43s : List fo_C := [(3, 0, 0, (-2))]
def fz89_44_4_52s : List fo_C := [(1, 0, 0, 0), (2, 8, 3, 0), (1, 0, 0, 0), (2, 8, 0, 0)]
def fz89_55_1_56s : List fo_C := [(0, 3, 0, 0)]
def fz89_59_4_67s : List fo_C := [(1, 0, 0, 0), (2, 8, 3, 0), (2, 7, 3, 0), (0, 2, 0, 0)]
def fz89_69_2_71s : List fo_C := [(0, 3, 0, 0), (3, 0, 0, 1)]
def fz89_74_4_82s : List fo_C := [(1, 0, 0, 0), (2, 8, 3, 0), (2, 7, 4, 0), (0, 2, 0, 0)]
def fz89_83_1_95s : List fo_C := [(14, 0, 0, 0)]
def fz89_86_4_94s : List fo_C := [(1, 0, 0, 0), (2, 8, 3, 0), (2, 7, 5, 0), (0, 2, 0, 0)]
def fz90_0_3_4s : List fo_C := [(0, 2, 0, 0), (3, 0, 0, 0), (3, 0, 0, 20)]
def fz90_7_2_24s : List fo_C := [(15, 1, 0, 0), (3, 0, 0, (-1))]
def fz90_7_3_12s : List fo_C := [(15, 0, 0, 0), (0, 3, 0, 0), (3, 0, 0, (-1))]
def fz90_15_2_17s : List fo_C := [(1, 0, 0, 0), (0, 3, 0, 0)]
def fz90_20_2_24s : List fo_C := [(15, 0, 1, 0), (3, 0, 0, (-1))]
def fz90_20_3_27s : List fo_C := [(15, 1, 1, 0), (1, 0, 0, 0), (0, 1, 0, 0)]
def fz90_25_2_27s : List fo_C := [(1, 0, 0, 0), (0, 1, 0, 0)]
def fz90_30_2_34s : List fo_C := [(5, 4, 0, 0), (0, 4, 0, 0)]
def fz90_37_1_39s : List fo_C := [(0, 4, 0, 0)]
def fz90_40_5_49s : List fo_C := [(1, 0, 0, 0), (2, 8, 3, 0), (1, 0, 0, 0), (2, 8, 0, 0), (0, 2, 0, 0)]
def fz90_52_3_57s : List fo_C := [(1, 0, 0, 0), (2, 8, 3, 0), (0, 3, 0, 0)]
def fz91_0_2_2s : List fo_C := [(1, 0, 0, 0), (0, 2, 0, 0)]
def fz91_5_2_18s : List fo_C := [(15, 1, 0, 0), (3, 0, 0, (-1))]
def fz91_5_4_11s : List fo_C := [(15, 0, 0, 0), (0, 3, 0, 0), (3, 0, 0, 0), (3, 0, 0, 1)]
def fz91_14_2_18s : List fo_C := [(15, 0, 1, 0), (3, 0, 0, (-1))]
def fz91_14_3_21s : List fo_C := [(15, 1, 1, 0), (1, 0, 0, 0), (0, 1, 0, 0)]
def fz91_24_2_28s : List fo_C := [(5, 4, 0, 0), (0, 4, 0, 0)]
def fz91_31_1_33s : List fo_C := [(0, 4, 0, 0)]
def fz91_34_4_43s : List fo_C := [(1, 0, 0, 0), (2, 8, 3, 0), (2, 7, 2, 0), (3, 0, 0, 20)]
def fz91_46_1_48s : List fo_C := [(3, 0, 0, (-5))]
def fz91_49_5_58s : List fo_C := [(1, 0, 0, 0), (2, 8, 3, 0), (1, 0, 0, 0), (2, 8, 0, 0), (0, 2, 0, 0)]
def fz91_61_2_64s : List fo_C := [(5, 5, 0, 0), (0, 3, 0, 0)]
def fz91_64_3_79s : List fo_C := [(15, 0, 1, 0), (0, 5, 0, 0), (14, 0, 0, 0)]
def fz91_67_2_79s : List fo_C := [(0, 5, 0, 0), (14, 0, 0, 0)]
def fz91_72_3_79s : List fo_C := [(1, 0, 0, 0), (2, 8, 3, 0), (2, 7, 6, 0)]
def fz91_73_2_79s : List fo_C := [(2, 8, 3, 0), (2, 7, 6, 0)]
def fz92_0_1_1s : List fo_C := [(0, 2, 0, 0)]
def fz92_1_2_23s : List fo_C := [(15, 1, 2, 0), (3, 0, 0, (-1))]
def fz92_4_2_6s : List fo_C := [(1, 0, 0, 0), (0, 3, 0, 0)]
def fz92_9_2_23s : List fo_C := [(15, 1, 0, 0), (3, 0, 0, (-1))]
def fz92_9_4_16s : List fo_C := [(15, 0, 0, 0), (0, 4, 0, 0), (3, 0, 0, 0), (3, 0, 0, 1)]
def fz92_19_2_23s : List fo_C := [(15, 0, 1, 0), (3, 0, 0, (-1))]
def fz92_19_3_26s : List fo_C := [(15, 1, 1, 0), (1, 0, 0, 0), (0, 1, 0, 0)]
def fz92_22_1_23s : List fo_C := [(3, 0, 0, (-1))]
def fz92_29_2_33s : List fo_C := [(5, 5, 0, 0), (0, 5, 0, 0)]
def fz92_36_1_38s : List fo_C := [(0, 5, 0, 0)]
def fz92_39_4_47s : List fo_C := [(0, 2, 0, 0), (1, 0, 0, 0), (2, 8, 3, 0), (2, 7, 2, 0)]
def fz92_50_1_51s : List fo_C := [(3, 0, 0, (-1))]
def fz92_52_4_61s : List fo_C := [(1, 0, 0, 0), (2, 8, 3, 0), (2, 7, 2, 0), (3, 0, 0, 20)]
def fz92_64_1_66s : List fo_C := [(3, 0, 0, (-5))]
def fz92_67_6_77s : List fo_C := [(1, 0, 0, 0), (2, 8, 3, 0), (1, 0, 0, 0), (2, 8, 0, 0), (0, 2, 0, 0), (0, 3, 0, 0)]
def fz92_80_2_84s : List fo_C := [(5, 6, 0, 0), (0, 4, 0, 0)]
def fz92_84_3_99s : List fo_C := [(15, 0, 1, 0), (0, 6, 0, 0), (14, 0, 0, 0)]
def fz92_87_2_99s : List fo_C := [(0, 6, 0, 0), (14, 0, 0, 0)]
def fz92_92_3_99s : List fo_C := [(1, 0, 0, 0), (2, 8, 3, 0), (2, 7, 6, 0)]
def fz92_93_2_99s : List fo_C := [(2, 8, 3, 0), (2, 7, 6, 0)]
def fz93_0_2_2s : List fo_C := [(1, 0, 0, 0), (0, 2, 0, 0)]
def fz93_5_2_18s : List fo_C := [(15, 1, 0, 0), (3, 0, 0, (-1))]
def fz93_5_4_11s : List fo_C := [(15, 0, 0, 0), (0, 3, 0, 0), (3, 0, 0, 0), (3, 0, 0, 1)]
def fz93_14_2_18s : List fo_C := [(15, 0, 1, 0), (3, 0, 0, (-1))]
def fz93_14_3_21s : List fo_C := [(15, 1, 1, 0), (1, 0, 0, 0), (0, 1, 0, 0)]
def fz93_24_2_28s : List fo_C := [(5, 4, 0, 0), (0, 4, 0, 0)]
def fz93_31_1_33s : List fo_C := [(0, 4, 0, 0)]
def fz93_34_5_43s : List fo_C := [(1, 0, 0, 0), (2, 8, 3, 0), (1, 0, 0, 0), (2, 8, 0, 0), (0, 2, 0, 0)]
def fz93_46_2_49s : List fo_C := [(5, 5, 0, 0), (0, 3, 0, 0)]
def fz93_49_3_64s : List fo_C := [(15, 0, 1, 0), (0, 5, 0, 0), (14, 0, 0, 0)]
def fz93_52_2_64s : List fo_C := [(0, 5, 0, 0), (14, 0, 0, 0)]
def fz93_57_3_64s : List fo_C := [(1, 0, 0, 0), (2, 8, 3, 0), (2, 7, 6, 0)]
def fz93_58_2_64s : List fo_C := [(2, 8, 3, 0), (2, 7, 6, 0)]
def fz94_0_1_1s : List fo_C := [(0, 1, 0, 0)]
def fz94_1_2_31s : List fo_C := [(15, 1, 2, 0), (3, 0, 0, (-1))]
def fz94_17_2_19s : List fo_C := [(1, 0, 0, 0), (0, 2, 0, 0)]
def fz94_22_2_31s : List fo_C := [(15, 1, 0, 0), (3, 0, 0, (-1))]
def fz94_22_3_27s : List fo_C := [(15, 0, 0, 0), (0, 3, 0, 0), (3, 0, 0, (-1))]
def fz94_30_1_31s : List fo_C := [(3, 0, 0, (-1))]
def fz94_32_1_33s : List fo_C := [(0, 1, 0, 0)]
def fz94_36_3_41s : List fo_C := [(5, 4, 0, 0), (0, 3, 0, 0), (0, 4, 0, 0)]
def fz94_44_1_46s : List fo_C := [(3, 0, 0, (-2))]
def fz94_47_2_50s : List fo_C := [(0, 4, 0, 0), (3, 0, 0, 5)]
def fz94_53_1_55s : List fo_C := [(3, 0, 0, (-5))]
def fz94_56_6_66s : List fo_C := [(1, 0, 0, 0), (2, 8, 3, 0), (1, 0, 0, 0), (2, 8, 0, 0), (0, 1, 0, 0), (0, 2, 0, 0)]
def fz94_69_1_70s : List fo_C := [(0, 3, 0, 0)]
def fz94_73_4_92s : List fo_C := [(1, 0, 0, 0), (2, 8, 3, 0), (2, 7, 6, 0), (14, 0, 0, 0)]
def fz94_83_4_91s : List fo_C := [(1, 0, 0, 0), (2, 8, 3, 0), (2, 7, 7, 0), (0, 3, 0, 0)]
def fz95_0_2_2s : List fo_C := [(1, 0, 0, 0), (0, 2, 0, 0)]
def fz95_5_2_9s : List fo_C := [(15, 0, 1, 0), (3, 0, 0, (-1))]
def fz95_5_3_12s : List fo_C := [(15, 1, 1, 0), (1, 0, 0, 0), (0, 1, 0, 0)]
def fz95_15_2_17s : List fo_C := [(5, 3, 0, 0), (0, 3, 0, 0)]
def fz95_20_1_21s : List fo_C := [(0, 3, 0, 0)]
def fz95_22_4_30s : List fo_C := [(1, 0, 0, 0), (2, 8, 3, 0), (1, 0, 0, 0), (2, 8, 0, 0)]
def fz95_33_7_47s : List fo_C := [(1, 0, 0, 0), (2, 8, 3, 0), (2, 7, 0, 0), (2, 4, 13, 0), (0, 2, 0, 0), (3, 0, 0, 10), (13, 0, 0, 0)]
def fz124_0_1_1s : List fo_C := [(0, 1, 0, 0)]
def fz124_1_2_42s : List fo_C := [(15, 1, 2, 0), (3, 0, 0, 0)]
def fz124_4_4_9s : List fo_C := [(1, 0, 0, 0), (0, 1, 0, 0), (3, 0, 0, 10), (13, 0, 0, 0)]
def fz124_12_2_42s : List fo_C := [(15, 1, 0, 0), (3, 0, 0, 0)]
def fz124_12_5_20s : List fo_C := [(15, 0, 0, 0), (1, 0, 0, 0), (0, 1, 0, 0), (3, 0, 0, 10), (12, 0, 0, 0)]
def fz124_23_2_42s : List fo_C := [(15, 1, 0, 0), (3, 0, 0, 0)]
def fz124_23_7_34s : List fo_C := [(15, 0, 0, 0), (0, 1, 0, 0), (3, 0, 0, 10), (13, 0, 0, 0), (0, 1, 0, 0), (3, 0, 0, 10), (12, 0, 0, 0)]
def fz124_37_2_42s : List fo_C := [(3, 0, 0, 1), (14, 0, 0, 0)]
def fz124_38_1_42s : List fo_C := [(14, 0, 0, 0)]
def fz124_41_1_42s : List fo_C := [(3, 0, 0, 0)]
theorem fz1_0_3_5 : fo_chk mi_h1.2.2.1 ft_1 0 fz1_0_3_5s 5 = true := by decide +kernel
theorem fz1_8_5_17 : fo_chk mi_h1.2.2.1 ft_1 8 fz1_8_5_17s 17 = true := by decide +kernel
theorem fz1_18_5_27 : fo_chk mi_h1.2.2.1 ft_1 18 fz1_18_5_27s 27 = true := by decide +kernel
theorem fz1_28_6_38 : fo_chk mi_h1.2.2.1 ft_1 28 fz1_28_6_38s 38 = true := by decide +kernel
theorem fz2_0_2_4 : fo_chk mi_h2.2.2.1 ft_2 0 fz2_0_2_4s 4 = true := by decide +kernel
theorem fz2_7_14_31 : fo_chk mi_h2.2.2.1 ft_2 7 fz2_7_14_31s 31 = true := by decide +kernel
theorem fz2_34_8_48 : fo_chk mi_h2.2.2.1 ft_2 34 fz2_34_8_48s 48 = true := by decide +kernel
theorem fz26_0_1_1 : fo_chk mi_h26.2.2.1 ft_26 0 fz26_0_1_1s 1 = true := by decide +kernel
theorem fz26_28_2_32 : fo_chk mi_h26.2.2.1 ft_26 28 fz26_28_2_32s 32 = true := by decide +kernel
theorem fz26_33_2_37 : fo_chk mi_h26.2.2.1 ft_26 33 fz26_33_2_37s 37 = true := by decide +kernel
theorem fz26_38_2_42 : fo_chk mi_h26.2.2.1 ft_26 38 fz26_38_2_42s 42 = true := by decide +kernel
theorem fz26_43_2_47 : fo_chk mi_h26.2.2.1 ft_26 43 fz26_43_2_47s 47 = true := by decide +kernel
theorem fz27_0_1_1 : fo_chk mi_h27.2.2.1 ft_27 0 fz27_0_1_1s 1 = true := by decide +kernel
theorem fz27_28_2_32 : fo_chk mi_h27.2.2.1 ft_27 28 fz27_28_2_32s 32 = true := by decide +kernel
theorem fz27_33_2_37 : fo_chk mi_h27.2.2.1 ft_27 33 fz27_33_2_37s 37 = true := by decide +kernel
theorem fz27_38_2_42 : fo_chk mi_h27.2.2.1 ft_27 38 fz27_38_2_42s 42 = true := by decide +kernel
theorem fz27_43_2_45 : fo_chk mi_h27.2.2.1 ft_27 43 fz27_43_2_45s 45 = true := by decide +kernel
theorem fz27_48_2_62 : fo_chk mi_h27.2.2.1 ft_27 48 fz27_48_2_62s 62 = true := by decide +kernel
theorem fz27_48_3_53 : fo_chk mi_h27.2.2.1 ft_27 48 fz27_48_3_53s 53 = true := by decide +kernel
theorem fz27_56_1_57 : fo_chk mi_h27.2.2.1 ft_27 56 fz27_56_1_57s 57 = true := by decide +kernel
theorem fz27_58_1_62 : fo_chk mi_h27.2.2.1 ft_27 58 fz27_58_1_62s 62 = true := by decide +kernel
theorem fz27_61_1_62 : fo_chk mi_h27.2.2.1 ft_27 61 fz27_61_1_62s 62 = true := by decide +kernel
theorem fz29_0_11_18 : fo_chk mi_h29.2.2.1 ft_29 0 fz29_0_11_18s 18 = true := by decide +kernel
theorem fz29_21_2_42 : fo_chk mi_h29.2.2.1 ft_29 21 fz29_21_2_42s 42 = true := by decide +kernel
theorem fz29_21_3_28 : fo_chk mi_h29.2.2.1 ft_29 21 fz29_21_3_28s 28 = true := by decide +kernel
theorem fz29_31_3_36 : fo_chk mi_h29.2.2.1 ft_29 31 fz29_31_3_36s 36 = true := by decide +kernel
theorem fz29_37_1_38 : fo_chk mi_h29.2.2.1 ft_29 37 fz29_37_1_38s 38 = true := by decide +kernel
theorem fz29_41_1_42 : fo_chk mi_h29.2.2.1 ft_29 41 fz29_41_1_42s 42 = true := by decide +kernel
theorem fz29_43_3_48 : fo_chk mi_h29.2.2.1 ft_29 43 fz29_43_3_48s 48 = true := by decide +kernel
theorem fz29_49_3_52 : fo_chk mi_h29.2.2.1 ft_29 49 fz29_49_3_52s 52 = true := by decide +kernel
theorem fz29_50_2_52 : fo_chk mi_h29.2.2.1 ft_29 50 fz29_50_2_52s 52 = true := by decide +kernel
theorem fz29_52_2_54 : fo_chk mi_h29.2.2.1 ft_29 52 fz29_52_2_54s 54 = true := by decide +kernel
theorem fz29_57_5_68 : fo_chk mi_h29.2.2.1 ft_29 57 fz29_57_5_68s 68 = true := by decide +kernel
theorem fz29_71_2_73 : fo_chk mi_h29.2.2.1 ft_29 71 fz29_71_2_73s 73 = true := by decide +kernel
theorem fz29_76_2_52 : fo_chk mi_h29.2.2.1 ft_29 76 fz29_76_2_52s 52 = true := by decide +kernel
theorem fz29_82_4_86 : fo_chk mi_h29.2.2.1 ft_29 82 fz29_82_4_86s 86 = true := by decide +kernel
theorem fz29_89_6_101 : fo_chk mi_h29.2.2.1 ft_29 89 fz29_89_6_101s 101 = true := by decide +kernel
theorem fz29_104_10_120 : fo_chk mi_h29.2.2.1 ft_29 104 fz29_104_10_120s 120 = true := by decide +kernel
theorem fz29_121_2_123 : fo_chk mi_h29.2.2.1 ft_29 121 fz29_121_2_123s 123 = true := by decide +kernel
theorem fz29_124_4_130 : fo_chk mi_h29.2.2.1 ft_29 124 fz29_124_4_130s 130 = true := by decide +kernel
theorem fz29_131_2_133 : fo_chk mi_h29.2.2.1 ft_29 131 fz29_131_2_133s 133 = true := by decide +kernel
theorem fz29_134_4_140 : fo_chk mi_h29.2.2.1 ft_29 134 fz29_134_4_140s 140 = true := by decide +kernel
theorem fz29_141_3_146 : fo_chk mi_h29.2.2.1 ft_29 141 fz29_141_3_146s 146 = true := by decide +kernel
theorem fz29_147_2_151 : fo_chk mi_h29.2.2.1 ft_29 147 fz29_147_2_151s 151 = true := by decide +kernel
theorem fz30_0_4_8 : fo_chk mi_h30.2.2.1 ft_30 0 fz30_0_4_8s 8 = true := by decide +kernel
theorem fz30_9_5_18 : fo_chk mi_h30.2.2.1 ft_30 9 fz30_9_5_18s 18 = true := by decide +kernel
theorem fz30_19_3_24 : fo_chk mi_h30.2.2.1 ft_30 19 fz30_19_3_24s 24 = true := by decide +kernel
theorem fz30_27_3_33 : fo_chk mi_h30.2.2.1 ft_30 27 fz30_27_3_33s 33 = true := by decide +kernel
theorem fz30_36_5_43 : fo_chk mi_h30.2.2.1 ft_30 36 fz30_36_5_43s 43 = true := by decide +kernel
theorem fz30_41_2_43 : fo_chk mi_h30.2.2.1 ft_30 41 fz30_41_2_43s 43 = true := by decide +kernel
theorem fz30_46_2_48 : fo_chk mi_h30.2.2.1 ft_30 46 fz30_46_2_48s 48 = true := by decide +kernel
theorem fz30_51_1_54 : fo_chk mi_h30.2.2.1 ft_30 51 fz30_51_1_54s 54 = true := by decide +kernel
theorem fz30_51_5_61 : fo_chk mi_h30.2.2.1 ft_30 51 fz30_51_5_61s 61 = true := by decide +kernel
theorem fz30_65_5_73 : fo_chk mi_h30.2.2.1 ft_30 65 fz30_65_5_73s 73 = true := by decide +kernel
theorem fz30_74_2_77 : fo_chk mi_h30.2.2.1 ft_30 74 fz30_74_2_77s 77 = true := by decide +kernel
theorem fz30_78_7_91 : fo_chk mi_h30.2.2.1 ft_30 78 fz30_78_7_91s 91 = true := by decide +kernel
theorem fz30_92_2_95 : fo_chk mi_h30.2.2.1 ft_30 92 fz30_92_2_95s 95 = true := by decide +kernel
theorem fz30_99_10_116 : fo_chk mi_h30.2.2.1 ft_30 99 fz30_99_10_116s 116 = true := by decide +kernel
theorem fz30_117_4_122 : fo_chk mi_h30.2.2.1 ft_30 117 fz30_117_4_122s 122 = true := by decide +kernel
theorem fz30_123_3_128 : fo_chk mi_h30.2.2.1 ft_30 123 fz30_123_3_128s 128 = true := by decide +kernel
theorem fz30_129_2_131 : fo_chk mi_h30.2.2.1 ft_30 129 fz30_129_2_131s 131 = true := by decide +kernel
theorem fz30_132_2_135 : fo_chk mi_h30.2.2.1 ft_30 132 fz30_132_2_135s 135 = true := by decide +kernel
theorem fz32_0_6_9 : fo_chk mi_h32.2.2.1 ft_32 0 fz32_0_6_9s 9 = true := by decide +kernel
theorem fz32_12_6_22 : fo_chk mi_h32.2.2.1 ft_32 12 fz32_12_6_22s 22 = true := by decide +kernel
theorem fz32_20_2_22 : fo_chk mi_h32.2.2.1 ft_32 20 fz32_20_2_22s 22 = true := by decide +kernel
theorem fz32_22_2_25 : fo_chk mi_h32.2.2.1 ft_32 22 fz32_22_2_25s 25 = true := by decide +kernel
theorem fz32_28_4_34 : fo_chk mi_h32.2.2.1 ft_32 28 fz32_28_4_34s 34 = true := by decide +kernel
theorem fz32_35_2_22 : fo_chk mi_h32.2.2.1 ft_32 35 fz32_35_2_22s 22 = true := by decide +kernel
theorem fz32_41_4_47 : fo_chk mi_h32.2.2.1 ft_32 41 fz32_41_4_47s 47 = true := by decide +kernel
theorem fz32_48_2_50 : fo_chk mi_h32.2.2.1 ft_32 48 fz32_48_2_50s 50 = true := by decide +kernel
theorem fz59_0_3_5 : fo_chk mi_h59.2.2.1 ft_59 0 fz59_0_3_5s 5 = true := by decide +kernel
theorem fz59_8_1_9 : fo_chk mi_h59.2.2.1 ft_59 8 fz59_8_1_9s 9 = true := by decide +kernel
theorem fz60_0_2_2 : fo_chk mi_h60.2.2.1 ft_60 0 fz60_0_2_2s 2 = true := by decide +kernel
theorem fz60_2_3_7 : fo_chk mi_h60.2.2.1 ft_60 2 fz60_2_3_7s 7 = true := by decide +kernel
theorem fz60_10_2_13 : fo_chk mi_h60.2.2.1 ft_60 10 fz60_10_2_13s 13 = true := by decide +kernel
theorem fz60_16_8_30 : fo_chk mi_h60.2.2.1 ft_60 16 fz60_16_8_30s 30 = true := by decide +kernel
theorem fz60_35_6_47 : fo_chk mi_h60.2.2.1 ft_60 35 fz60_35_6_47s 47 = true := by decide +kernel
theorem fz60_48_6_60 : fo_chk mi_h60.2.2.1 ft_60 48 fz60_48_6_60s 60 = true := by decide +kernel
theorem fz60_61_2_2 : fo_chk mi_h60.2.2.1 ft_60 61 fz60_61_2_2s 2 = true := by decide +kernel
theorem fz61_0_3_5 : fo_chk mi_h61.2.2.1 ft_61 0 fz61_0_3_5s 5 = true := by decide +kernel
theorem fz61_8_2_10 : fo_chk mi_h61.2.2.1 ft_61 8 fz61_8_2_10s 10 = true := by decide +kernel
theorem fz61_10_2_12 : fo_chk mi_h61.2.2.1 ft_61 10 fz61_10_2_12s 12 = true := by decide +kernel
theorem fz61_15_1_16 : fo_chk mi_h61.2.2.1 ft_61 15 fz61_15_1_16s 16 = true := by decide +kernel
theorem fz61_19_2_23 : fo_chk mi_h61.2.2.1 ft_61 19 fz61_19_2_23s 23 = true := by decide +kernel
theorem fz61_26_1_27 : fo_chk mi_h61.2.2.1 ft_61 26 fz61_26_1_27s 27 = true := by decide +kernel
theorem fz61_30_2_10 : fo_chk mi_h61.2.2.1 ft_61 30 fz61_30_2_10s 10 = true := by decide +kernel
theorem fz62_0_3_5 : fo_chk mi_h62.2.2.1 ft_62 0 fz62_0_3_5s 5 = true := by decide +kernel
theorem fz62_8_5_19 : fo_chk mi_h62.2.2.1 ft_62 8 fz62_8_5_19s 19 = true := by decide +kernel
theorem fz62_8_5_31 : fo_chk mi_h62.2.2.1 ft_62 8 fz62_8_5_31s 31 = true := by decide +kernel
theorem fz62_20_1_32 : fo_chk mi_h62.2.2.1 ft_62 20 fz62_20_1_32s 32 = true := by decide +kernel
theorem fz63_0_3_5 : fo_chk mi_h63.2.2.1 ft_63 0 fz63_0_3_5s 5 = true := by decide +kernel
theorem fz63_8_2_10 : fo_chk mi_h63.2.2.1 ft_63 8 fz63_8_2_10s 10 = true := by decide +kernel
theorem fz63_10_3_15 : fo_chk mi_h63.2.2.1 ft_63 10 fz63_10_3_15s 15 = true := by decide +kernel
theorem fz63_18_2_21 : fo_chk mi_h63.2.2.1 ft_63 18 fz63_18_2_21s 21 = true := by decide +kernel
theorem fz63_24_5_33 : fo_chk mi_h63.2.2.1 ft_63 24 fz63_24_5_33s 33 = true := by decide +kernel
theorem fz63_37_3_10 : fo_chk mi_h63.2.2.1 ft_63 37 fz63_37_3_10s 10 = true := by decide +kernel
theorem fz63_38_2_10 : fo_chk mi_h63.2.2.1 ft_63 38 fz63_38_2_10s 10 = true := by decide +kernel
theorem fz63_44_4_50 : fo_chk mi_h63.2.2.1 ft_63 44 fz63_44_4_50s 50 = true := by decide +kernel
theorem fz64_0_3_5 : fo_chk mi_h64.2.2.1 ft_64 0 fz64_0_3_5s 5 = true := by decide +kernel
theorem fz64_6_7_17 : fo_chk mi_h64.2.2.1 ft_64 6 fz64_6_7_17s 17 = true := by decide +kernel
theorem fz64_19_4_25 : fo_chk mi_h64.2.2.1 ft_64 19 fz64_19_4_25s 25 = true := by decide +kernel
theorem fz65_0_3_6 : fo_chk mi_h65.2.2.1 ft_65 0 fz65_0_3_6s 6 = true := by decide +kernel
theorem fz65_9_1_10 : fo_chk mi_h65.2.2.1 ft_65 9 fz65_9_1_10s 10 = true := by decide +kernel
theorem fz65_13_3_18 : fo_chk mi_h65.2.2.1 ft_65 13 fz65_13_3_18s 18 = true := by decide +kernel
theorem fz65_21_12_39 : fo_chk mi_h65.2.2.1 ft_65 21 fz65_21_12_39s 39 = true := by decide +kernel
theorem fz65_42_4_48 : fo_chk mi_h65.2.2.1 ft_65 42 fz65_42_4_48s 48 = true := by decide +kernel
theorem fz65_49_6_59 : fo_chk mi_h65.2.2.1 ft_65 49 fz65_49_6_59s 59 = true := by decide +kernel
theorem fz66_0_8_10 : fo_chk mi_h66.2.2.1 ft_66 0 fz66_0_8_10s 10 = true := by decide +kernel
theorem fz66_13_2_16 : fo_chk mi_h66.2.2.1 ft_66 13 fz66_13_2_16s 16 = true := by decide +kernel
theorem fz66_16_3_22 : fo_chk mi_h66.2.2.1 ft_66 16 fz66_16_3_22s 22 = true := by decide +kernel
theorem fz66_25_3_28 : fo_chk mi_h66.2.2.1 ft_66 25 fz66_25_3_28s 28 = true := by decide +kernel
theorem fz66_31_4_39 : fo_chk mi_h66.2.2.1 ft_66 31 fz66_31_4_39s 39 = true := by decide +kernel
theorem fz66_42_10_59 : fo_chk mi_h66.2.2.1 ft_66 42 fz66_42_10_59s 59 = true := by decide +kernel
theorem fz66_51_5_59 : fo_chk mi_h66.2.2.1 ft_66 51 fz66_51_5_59s 59 = true := by decide +kernel
theorem fz66_62_5_69 : fo_chk mi_h66.2.2.1 ft_66 62 fz66_62_5_69s 69 = true := by decide +kernel
theorem fz66_72_2_16 : fo_chk mi_h66.2.2.1 ft_66 72 fz66_72_2_16s 16 = true := by decide +kernel
theorem fz66_78_1_79 : fo_chk mi_h66.2.2.1 ft_66 78 fz66_78_1_79s 79 = true := by decide +kernel
theorem fz67_0_8_11 : fo_chk mi_h67.2.2.1 ft_67 0 fz67_0_8_11s 11 = true := by decide +kernel
theorem fz67_14_2_17 : fo_chk mi_h67.2.2.1 ft_67 14 fz67_14_2_17s 17 = true := by decide +kernel
theorem fz67_17_3_23 : fo_chk mi_h67.2.2.1 ft_67 17 fz67_17_3_23s 23 = true := by decide +kernel
theorem fz67_26_4_33 : fo_chk mi_h67.2.2.1 ft_67 26 fz67_26_4_33s 33 = true := by decide +kernel
theorem fz67_34_3_37 : fo_chk mi_h67.2.2.1 ft_67 34 fz67_34_3_37s 37 = true := by decide +kernel
theorem fz67_40_4_48 : fo_chk mi_h67.2.2.1 ft_67 40 fz67_40_4_48s 48 = true := by decide +kernel
theorem fz67_51_7_17 : fo_chk mi_h67.2.2.1 ft_67 51 fz67_51_7_17s 17 = true := by decide +kernel
theorem fz67_61_2_17 : fo_chk mi_h67.2.2.1 ft_67 61 fz67_61_2_17s 17 = true := by decide +kernel
theorem fz67_67_1_69 : fo_chk mi_h67.2.2.1 ft_67 67 fz67_67_1_69s 69 = true := by decide +kernel
theorem fz68_0_6_7 : fo_chk mi_h68.2.2.1 ft_68 0 fz68_0_6_7s 7 = true := by decide +kernel
theorem fz68_10_3_16 : fo_chk mi_h68.2.2.1 ft_68 10 fz68_10_3_16s 16 = true := by decide +kernel
theorem fz68_13_2_16 : fo_chk mi_h68.2.2.1 ft_68 13 fz68_13_2_16s 16 = true := by decide +kernel
theorem fz68_16_5_24 : fo_chk mi_h68.2.2.1 ft_68 16 fz68_16_5_24s 24 = true := by decide +kernel
theorem fz68_27_5_34 : fo_chk mi_h68.2.2.1 ft_68 27 fz68_27_5_34s 34 = true := by decide +kernel
theorem fz68_37_3_40 : fo_chk mi_h68.2.2.1 ft_68 37 fz68_37_3_40s 40 = true := by decide +kernel
theorem fz68_43_6_52 : fo_chk mi_h68.2.2.1 ft_68 43 fz68_43_6_52s 52 = true := by decide +kernel
theorem fz68_55_3_61 : fo_chk mi_h68.2.2.1 ft_68 55 fz68_55_3_61s 61 = true := by decide +kernel
theorem fz68_64_7_16 : fo_chk mi_h68.2.2.1 ft_68 64 fz68_64_7_16s 16 = true := by decide +kernel
theorem fz68_72_3_16 : fo_chk mi_h68.2.2.1 ft_68 72 fz68_72_3_16s 16 = true := by decide +kernel
theorem fz68_73_2_16 : fo_chk mi_h68.2.2.1 ft_68 73 fz68_73_2_16s 16 = true := by decide +kernel
theorem fz68_79_1_80 : fo_chk mi_h68.2.2.1 ft_68 79 fz68_79_1_80s 80 = true := by decide +kernel
theorem fz69_0_5_8 : fo_chk mi_h69.2.2.1 ft_69 0 fz69_0_5_8s 8 = true := by decide +kernel
theorem fz69_5_2_8 : fo_chk mi_h69.2.2.1 ft_69 5 fz69_5_2_8s 8 = true := by decide +kernel
theorem fz69_8_2_12 : fo_chk mi_h69.2.2.1 ft_69 8 fz69_8_2_12s 12 = true := by decide +kernel
theorem fz69_15_3_20 : fo_chk mi_h69.2.2.1 ft_69 15 fz69_15_3_20s 20 = true := by decide +kernel
theorem fz69_33_5_43 : fo_chk mi_h69.2.2.1 ft_69 33 fz69_33_5_43s 43 = true := by decide +kernel
theorem fz69_44_8_8 : fo_chk mi_h69.2.2.1 ft_69 44 fz69_44_8_8s 8 = true := by decide +kernel
theorem fz69_49_5_8 : fo_chk mi_h69.2.2.1 ft_69 49 fz69_49_5_8s 8 = true := by decide +kernel
theorem fz69_54_2_8 : fo_chk mi_h69.2.2.1 ft_69 54 fz69_54_2_8s 8 = true := by decide +kernel
theorem fz69_60_7_71 : fo_chk mi_h69.2.2.1 ft_69 60 fz69_60_7_71s 71 = true := by decide +kernel
theorem fz69_66_3_71 : fo_chk mi_h69.2.2.1 ft_69 66 fz69_66_3_71s 71 = true := by decide +kernel
theorem fz69_71_2_75 : fo_chk mi_h69.2.2.1 ft_69 71 fz69_71_2_75s 75 = true := by decide +kernel
theorem fz69_78_1_80 : fo_chk mi_h69.2.2.1 ft_69 78 fz69_78_1_80s 80 = true := by decide +kernel
theorem fz69_83_3_86 : fo_chk mi_h69.2.2.1 ft_69 83 fz69_83_3_86s 86 = true := by decide +kernel
theorem fz69_89_4_97 : fo_chk mi_h69.2.2.1 ft_69 89 fz69_89_4_97s 97 = true := by decide +kernel
theorem fz69_100_11_120 : fo_chk mi_h69.2.2.1 ft_69 100 fz69_100_11_120s 120 = true := by decide +kernel
theorem fz69_123_1_124 : fo_chk mi_h69.2.2.1 ft_69 123 fz69_123_1_124s 124 = true := by decide +kernel
theorem fz69_127_3_71 : fo_chk mi_h69.2.2.1 ft_69 127 fz69_127_3_71s 71 = true := by decide +kernel
theorem fz70_0_5_7 : fo_chk mi_h70.2.2.1 ft_70 0 fz70_0_5_7s 7 = true := by decide +kernel
theorem fz70_5_2_7 : fo_chk mi_h70.2.2.1 ft_70 5 fz70_5_2_7s 7 = true := by decide +kernel
theorem fz70_7_1_8 : fo_chk mi_h70.2.2.1 ft_70 7 fz70_7_1_8s 8 = true := by decide +kernel
theorem fz70_11_3_16 : fo_chk mi_h70.2.2.1 ft_70 11 fz70_11_3_16s 16 = true := by decide +kernel
theorem fz70_17_5_24 : fo_chk mi_h70.2.2.1 ft_70 17 fz70_17_5_24s 24 = true := by decide +kernel
theorem fz70_28_2_7 : fo_chk mi_h70.2.2.1 ft_70 28 fz70_28_2_7s 7 = true := by decide +kernel
theorem fz70_34_1_35 : fo_chk mi_h70.2.2.1 ft_70 34 fz70_34_1_35s 35 = true := by decide +kernel
theorem fz70_38_1_39 : fo_chk mi_h70.2.2.1 ft_70 38 fz70_38_1_39s 39 = true := by decide +kernel
theorem fz70_40_5_47 : fo_chk mi_h70.2.2.1 ft_70 40 fz70_40_5_47s 47 = true := by decide +kernel
theorem fz70_45_2_47 : fo_chk mi_h70.2.2.1 ft_70 45 fz70_45_2_47s 47 = true := by decide +kernel
theorem fz70_47_2_49 : fo_chk mi_h70.2.2.1 ft_70 47 fz70_47_2_49s 49 = true := by decide +kernel
theorem fz70_52_3_57 : fo_chk mi_h70.2.2.1 ft_70 52 fz70_52_3_57s 57 = true := by decide +kernel
theorem fz70_58_3_63 : fo_chk mi_h70.2.2.1 ft_70 58 fz70_58_3_63s 63 = true := by decide +kernel
theorem fz70_67_2_47 : fo_chk mi_h70.2.2.1 ft_70 67 fz70_67_2_47s 47 = true := by decide +kernel
theorem fz70_73_3_76 : fo_chk mi_h70.2.2.1 ft_70 73 fz70_73_3_76s 76 = true := by decide +kernel
theorem fz70_79_9_91 : fo_chk mi_h70.2.2.1 ft_70 79 fz70_79_9_91s 91 = true := by decide +kernel
theorem fz70_87_3_91 : fo_chk mi_h70.2.2.1 ft_70 87 fz70_87_3_91s 91 = true := by decide +kernel
theorem fz70_91_2_94 : fo_chk mi_h70.2.2.1 ft_70 91 fz70_91_2_94s 94 = true := by decide +kernel
theorem fz70_97_3_101 : fo_chk mi_h70.2.2.1 ft_70 97 fz70_97_3_101s 101 = true := by decide +kernel
theorem fz70_104_3_91 : fo_chk mi_h70.2.2.1 ft_70 104 fz70_104_3_91s 91 = true := by decide +kernel
theorem fz70_113_1_114 : fo_chk mi_h70.2.2.1 ft_70 113 fz70_113_1_114s 114 = true := by decide +kernel
theorem fz71_0_2_2 : fo_chk mi_h71.2.2.1 ft_71 0 fz71_0_2_2s 2 = true := by decide +kernel
theorem fz71_2_2_5 : fo_chk mi_h71.2.2.1 ft_71 2 fz71_2_2_5s 5 = true := by decide +kernel
theorem fz71_8_2_10 : fo_chk mi_h71.2.2.1 ft_71 8 fz71_8_2_10s 10 = true := by decide +kernel
theorem fz71_10_2_13 : fo_chk mi_h71.2.2.1 ft_71 10 fz71_10_2_13s 13 = true := by decide +kernel
theorem fz71_16_3_21 : fo_chk mi_h71.2.2.1 ft_71 16 fz71_16_3_21s 21 = true := by decide +kernel
theorem fz71_22_3_25 : fo_chk mi_h71.2.2.1 ft_71 22 fz71_22_3_25s 25 = true := by decide +kernel
theorem fz71_28_4_36 : fo_chk mi_h71.2.2.1 ft_71 28 fz71_28_4_36s 36 = true := by decide +kernel
theorem fz71_37_1_38 : fo_chk mi_h71.2.2.1 ft_71 37 fz71_37_1_38s 38 = true := by decide +kernel
theorem fz71_39_2_49 : fo_chk mi_h71.2.2.1 ft_71 39 fz71_39_2_49s 49 = true := by decide +kernel
theorem fz71_42_2_49 : fo_chk mi_h71.2.2.1 ft_71 42 fz71_42_2_49s 49 = true := by decide +kernel
theorem fz71_43_1_49 : fo_chk mi_h71.2.2.1 ft_71 43 fz71_43_1_49s 49 = true := by decide +kernel
theorem fz71_46_1_49 : fo_chk mi_h71.2.2.1 ft_71 46 fz71_46_1_49s 49 = true := by decide +kernel
theorem fz71_50_2_10 : fo_chk mi_h71.2.2.1 ft_71 50 fz71_50_2_10s 10 = true := by decide +kernel
theorem fz71_56_2_2 : fo_chk mi_h71.2.2.1 ft_71 56 fz71_56_2_2s 2 = true := by decide +kernel
theorem fz71_62_2_64 : fo_chk mi_h71.2.2.1 ft_71 62 fz71_62_2_64s 64 = true := by decide +kernel
theorem fz71_64_2_67 : fo_chk mi_h71.2.2.1 ft_71 64 fz71_64_2_67s 67 = true := by decide +kernel
theorem fz71_70_2_72 : fo_chk mi_h71.2.2.1 ft_71 70 fz71_70_2_72s 72 = true := by decide +kernel
theorem fz71_72_2_75 : fo_chk mi_h71.2.2.1 ft_71 72 fz71_72_2_75s 75 = true := by decide +kernel
theorem fz71_78_2_80 : fo_chk mi_h71.2.2.1 ft_71 78 fz71_78_2_80s 80 = true := by decide +kernel
theorem fz71_80_2_83 : fo_chk mi_h71.2.2.1 ft_71 80 fz71_80_2_83s 83 = true := by decide +kernel
theorem fz71_86_3_91 : fo_chk mi_h71.2.2.1 ft_71 86 fz71_86_3_91s 91 = true := by decide +kernel
theorem fz71_92_4_98 : fo_chk mi_h71.2.2.1 ft_71 92 fz71_92_4_98s 98 = true := by decide +kernel
theorem fz71_99_1_100 : fo_chk mi_h71.2.2.1 ft_71 99 fz71_99_1_100s 100 = true := by decide +kernel
theorem fz71_101_3_106 : fo_chk mi_h71.2.2.1 ft_71 101 fz71_101_3_106s 106 = true := by decide +kernel
theorem fz71_107_1_108 : fo_chk mi_h71.2.2.1 ft_71 107 fz71_107_1_108s 108 = true := by decide +kernel
theorem fz71_109_3_114 : fo_chk mi_h71.2.2.1 ft_71 109 fz71_109_3_114s 114 = true := by decide +kernel
theorem fz71_115_1_116 : fo_chk mi_h71.2.2.1 ft_71 115 fz71_115_1_116s 116 = true := by decide +kernel
theorem fz71_117_1_118 : fo_chk mi_h71.2.2.1 ft_71 117 fz71_117_1_118s 118 = true := by decide +kernel
theorem fz71_122_2_80 : fo_chk mi_h71.2.2.1 ft_71 122 fz71_122_2_80s 80 = true := by decide +kernel
theorem fz71_128_2_72 : fo_chk mi_h71.2.2.1 ft_71 128 fz71_128_2_72s 72 = true := by decide +kernel
theorem fz71_134_2_64 : fo_chk mi_h71.2.2.1 ft_71 134 fz71_134_2_64s 64 = true := by decide +kernel
theorem fz71_140_4_146 : fo_chk mi_h71.2.2.1 ft_71 140 fz71_140_4_146s 146 = true := by decide +kernel
theorem fz71_143_3_146 : fo_chk mi_h71.2.2.1 ft_71 143 fz71_143_3_146s 146 = true := by decide +kernel
theorem fz71_146_2_149 : fo_chk mi_h71.2.2.1 ft_71 146 fz71_146_2_149s 149 = true := by decide +kernel
theorem fz71_152_4_158 : fo_chk mi_h71.2.2.1 ft_71 152 fz71_152_4_158s 158 = true := by decide +kernel
theorem fz71_159_1_160 : fo_chk mi_h71.2.2.1 ft_71 159 fz71_159_1_160s 160 = true := by decide +kernel
theorem fz71_164_3_146 : fo_chk mi_h71.2.2.1 ft_71 164 fz71_164_3_146s 146 = true := by decide +kernel
theorem fz71_171_2_175 : fo_chk mi_h71.2.2.1 ft_71 171 fz71_171_2_175s 175 = true := by decide +kernel
theorem fz71_178_2_184 : fo_chk mi_h71.2.2.1 ft_71 178 fz71_178_2_184s 184 = true := by decide +kernel
theorem fz71_179_1_184 : fo_chk mi_h71.2.2.1 ft_71 179 fz71_179_1_184s 184 = true := by decide +kernel
theorem fz71_182_1_184 : fo_chk mi_h71.2.2.1 ft_71 182 fz71_182_1_184s 184 = true := by decide +kernel
theorem fz72_0_6_8 : fo_chk mi_h72.2.2.1 ft_72 0 fz72_0_6_8s 8 = true := by decide +kernel
theorem fz72_5_2_8 : fo_chk mi_h72.2.2.1 ft_72 5 fz72_5_2_8s 8 = true := by decide +kernel
theorem fz72_8_3_14 : fo_chk mi_h72.2.2.1 ft_72 8 fz72_8_3_14s 14 = true := by decide +kernel
theorem fz72_17_4_26 : fo_chk mi_h72.2.2.1 ft_72 17 fz72_17_4_26s 26 = true := by decide +kernel
theorem fz72_27_3_33 : fo_chk mi_h72.2.2.1 ft_72 27 fz72_27_3_33s 33 = true := by decide +kernel
theorem fz72_34_4_40 : fo_chk mi_h72.2.2.1 ft_72 34 fz72_34_4_40s 40 = true := by decide +kernel
theorem fz72_43_2_46 : fo_chk mi_h72.2.2.1 ft_72 43 fz72_43_2_46s 46 = true := by decide +kernel
theorem fz72_49_6_8 : fo_chk mi_h72.2.2.1 ft_72 49 fz72_49_6_8s 8 = true := by decide +kernel
theorem fz72_55_2_8 : fo_chk mi_h72.2.2.1 ft_72 55 fz72_55_2_8s 8 = true := by decide +kernel
theorem fz72_61_1_62 : fo_chk mi_h72.2.2.1 ft_72 61 fz72_61_1_62s 62 = true := by decide +kernel
theorem fz88_0_3_3 : fo_chk mi_h88.2.2.1 ft_88 0 fz88_0_3_3s 3 = true := by decide +kernel
theorem fz88_6_2_30 : fo_chk mi_h88.2.2.1 ft_88 6 fz88_6_2_30s 30 = true := by decide +kernel
theorem fz88_6_3_11 : fo_chk mi_h88.2.2.1 ft_88 6 fz88_6_3_11s 11 = true := by decide +kernel
theorem fz88_14_2_16 : fo_chk mi_h88.2.2.1 ft_88 14 fz88_14_2_16s 16 = true := by decide +kernel
theorem fz88_19_3_33 : fo_chk mi_h88.2.2.1 ft_88 19 fz88_19_3_33s 33 = true := by decide +kernel
theorem fz88_19_3_30 : fo_chk mi_h88.2.2.1 ft_88 19 fz88_19_3_30s 30 = true := by decide +kernel
theorem fz88_22_2_30 : fo_chk mi_h88.2.2.1 ft_88 22 fz88_22_2_30s 30 = true := by decide +kernel
theorem fz88_25_1_26 : fo_chk mi_h88.2.2.1 ft_88 25 fz88_25_1_26s 26 = true := by decide +kernel
theorem fz88_25_3_30 : fo_chk mi_h88.2.2.1 ft_88 25 fz88_25_3_30s 30 = true := by decide +kernel
theorem fz88_26_2_30 : fo_chk mi_h88.2.2.1 ft_88 26 fz88_26_2_30s 30 = true := by decide +kernel
theorem fz88_26_3_33 : fo_chk mi_h88.2.2.1 ft_88 26 fz88_26_3_33s 33 = true := by decide +kernel
theorem fz88_29_1_30 : fo_chk mi_h88.2.2.1 ft_88 29 fz88_29_1_30s 30 = true := by decide +kernel
theorem fz88_31_2_33 : fo_chk mi_h88.2.2.1 ft_88 31 fz88_31_2_33s 33 = true := by decide +kernel
theorem fz88_36_2_40 : fo_chk mi_h88.2.2.1 ft_88 36 fz88_36_2_40s 40 = true := by decide +kernel
theorem fz88_43_1_45 : fo_chk mi_h88.2.2.1 ft_88 43 fz88_43_1_45s 45 = true := by decide +kernel
theorem fz88_46_4_54 : fo_chk mi_h88.2.2.1 ft_88 46 fz88_46_4_54s 54 = true := by decide +kernel
theorem fz88_57_1_58 : fo_chk mi_h88.2.2.1 ft_88 57 fz88_57_1_58s 58 = true := by decide +kernel
theorem fz88_92_5_103 : fo_chk mi_h88.2.2.1 ft_88 92 fz88_92_5_103s 103 = true := by decide +kernel
theorem fz88_119_5_128 : fo_chk mi_h88.2.2.1 ft_88 119 fz88_119_5_128s 128 = true := by decide +kernel
theorem fz89_0_1_1 : fo_chk mi_h89.2.2.1 ft_89 0 fz89_0_1_1s 1 = true := by decide +kernel
theorem fz89_1_2_14 : fo_chk mi_h89.2.2.1 ft_89 1 fz89_1_2_14s 14 = true := by decide +kernel
theorem fz89_4_3_7 : fo_chk mi_h89.2.2.1 ft_89 4 fz89_4_3_7s 7 = true := by decide +kernel
theorem fz89_10_2_14 : fo_chk mi_h89.2.2.1 ft_89 10 fz89_10_2_14s 14 = true := by decide +kernel
theorem fz89_10_3_17 : fo_chk mi_h89.2.2.1 ft_89 10 fz89_10_3_17s 17 = true := by decide +kernel
theorem fz89_13_1_14 : fo_chk mi_h89.2.2.1 ft_89 13 fz89_13_1_14s 14 = true := by decide +kernel
theorem fz89_20_2_24 : fo_chk mi_h89.2.2.1 ft_89 20 fz89_20_2_24s 24 = true := by decide +kernel
theorem fz89_27_1_29 : fo_chk mi_h89.2.2.1 ft_89 27 fz89_27_1_29s 29 = true := by decide +kernel
theorem fz89_30_4_38 : fo_chk mi_h89.2.2.1 ft_89 30 fz89_30_4_38s 38 = true := by decide +kernel
theorem fz89_41_1_43 : fo_chk mi_h89.2.2.1 ft_89 41 fz89_41_1_43s 43 = true := by decide +kernel
theorem fz89_44_4_52 : fo_chk mi_h89.2.2.1 ft_89 44 fz89_44_4_52s 52 = true := by decide +kernel
theorem fz89_55_1_56 : fo_chk mi_h89.2.2.1 ft_89 55 fz89_55_1_56s 56 = true := by decide +kernel
theorem fz89_59_4_67 : fo_chk mi_h89.2.2.1 ft_89 59 fz89_59_4_67s 67 = true := by decide +kernel
theorem fz89_69_2_71 : fo_chk mi_h89.2.2.1 ft_89 69 fz89_69_2_71s 71 = true := by decide +kernel
theorem fz89_74_4_82 : fo_chk mi_h89.2.2.1 ft_89 74 fz89_74_4_82s 82 = true := by decide +kernel
theorem fz89_83_1_95 : fo_chk mi_h89.2.2.1 ft_89 83 fz89_83_1_95s 95 = true := by decide +kernel
theorem fz89_86_4_94 : fo_chk mi_h89.2.2.1 ft_89 86 fz89_86_4_94s 94 = true := by decide +kernel
theorem fz90_0_3_4 : fo_chk mi_h90.2.2.1 ft_90 0 fz90_0_3_4s 4 = true := by decide +kernel
theorem fz90_7_2_24 : fo_chk mi_h90.2.2.1 ft_90 7 fz90_7_2_24s 24 = true := by decide +kernel
theorem fz90_7_3_12 : fo_chk mi_h90.2.2.1 ft_90 7 fz90_7_3_12s 12 = true := by decide +kernel
theorem fz90_15_2_17 : fo_chk mi_h90.2.2.1 ft_90 15 fz90_15_2_17s 17 = true := by decide +kernel
theorem fz90_20_2_24 : fo_chk mi_h90.2.2.1 ft_90 20 fz90_20_2_24s 24 = true := by decide +kernel
theorem fz90_20_3_27 : fo_chk mi_h90.2.2.1 ft_90 20 fz90_20_3_27s 27 = true := by decide +kernel
theorem fz90_25_2_27 : fo_chk mi_h90.2.2.1 ft_90 25 fz90_25_2_27s 27 = true := by decide +kernel
theorem fz90_30_2_34 : fo_chk mi_h90.2.2.1 ft_90 30 fz90_30_2_34s 34 = true := by decide +kernel
theorem fz90_37_1_39 : fo_chk mi_h90.2.2.1 ft_90 37 fz90_37_1_39s 39 = true := by decide +kernel
theorem fz90_40_5_49 : fo_chk mi_h90.2.2.1 ft_90 40 fz90_40_5_49s 49 = true := by decide +kernel
theorem fz90_52_3_57 : fo_chk mi_h90.2.2.1 ft_90 52 fz90_52_3_57s 57 = true := by decide +kernel
theorem fz91_0_2_2 : fo_chk mi_h91.2.2.1 ft_91 0 fz91_0_2_2s 2 = true := by decide +kernel
theorem fz91_5_2_18 : fo_chk mi_h91.2.2.1 ft_91 5 fz91_5_2_18s 18 = true := by decide +kernel
theorem fz91_5_4_11 : fo_chk mi_h91.2.2.1 ft_91 5 fz91_5_4_11s 11 = true := by decide +kernel
theorem fz91_14_2_18 : fo_chk mi_h91.2.2.1 ft_91 14 fz91_14_2_18s 18 = true := by decide +kernel
theorem fz91_14_3_21 : fo_chk mi_h91.2.2.1 ft_91 14 fz91_14_3_21s 21 = true := by decide +kernel
theorem fz91_24_2_28 : fo_chk mi_h91.2.2.1 ft_91 24 fz91_24_2_28s 28 = true := by decide +kernel
theorem fz91_31_1_33 : fo_chk mi_h91.2.2.1 ft_91 31 fz91_31_1_33s 33 = true := by decide +kernel
theorem fz91_34_4_43 : fo_chk mi_h91.2.2.1 ft_91 34 fz91_34_4_43s 43 = true := by decide +kernel
theorem fz91_46_1_48 : fo_chk mi_h91.2.2.1 ft_91 46 fz91_46_1_48s 48 = true := by decide +kernel
theorem fz91_49_5_58 : fo_chk mi_h91.2.2.1 ft_91 49 fz91_49_5_58s 58 = true := by decide +kernel
theorem fz91_61_2_64 : fo_chk mi_h91.2.2.1 ft_91 61 fz91_61_2_64s 64 = true := by decide +kernel
theorem fz91_64_3_79 : fo_chk mi_h91.2.2.1 ft_91 64 fz91_64_3_79s 79 = true := by decide +kernel
theorem fz91_67_2_79 : fo_chk mi_h91.2.2.1 ft_91 67 fz91_67_2_79s 79 = true := by decide +kernel
theorem fz91_72_3_79 : fo_chk mi_h91.2.2.1 ft_91 72 fz91_72_3_79s 79 = true := by decide +kernel
theorem fz91_73_2_79 : fo_chk mi_h91.2.2.1 ft_91 73 fz91_73_2_79s 79 = true := by decide +kernel
theorem fz92_0_1_1 : fo_chk mi_h92.2.2.1 ft_92 0 fz92_0_1_1s 1 = true := by decide +kernel
theorem fz92_1_2_23 : fo_chk mi_h92.2.2.1 ft_92 1 fz92_1_2_23s 23 = true := by decide +kernel
theorem fz92_4_2_6 : fo_chk mi_h92.2.2.1 ft_92 4 fz92_4_2_6s 6 = true := by decide +kernel
theorem fz92_9_2_23 : fo_chk mi_h92.2.2.1 ft_92 9 fz92_9_2_23s 23 = true := by decide +kernel
theorem fz92_9_4_16 : fo_chk mi_h92.2.2.1 ft_92 9 fz92_9_4_16s 16 = true := by decide +kernel
theorem fz92_19_2_23 : fo_chk mi_h92.2.2.1 ft_92 19 fz92_19_2_23s 23 = true := by decide +kernel
theorem fz92_19_3_26 : fo_chk mi_h92.2.2.1 ft_92 19 fz92_19_3_26s 26 = true := by decide +kernel
theorem fz92_22_1_23 : fo_chk mi_h92.2.2.1 ft_92 22 fz92_22_1_23s 23 = true := by decide +kernel
theorem fz92_29_2_33 : fo_chk mi_h92.2.2.1 ft_92 29 fz92_29_2_33s 33 = true := by decide +kernel
theorem fz92_36_1_38 : fo_chk mi_h92.2.2.1 ft_92 36 fz92_36_1_38s 38 = true := by decide +kernel
theorem fz92_39_4_47 : fo_chk mi_h92.2.2.1 ft_92 39 fz92_39_4_47s 47 = true := by decide +kernel
theorem fz92_50_1_51 : fo_chk mi_h92.2.2.1 ft_92 50 fz92_50_1_51s 51 = true := by decide +kernel
theorem fz92_52_4_61 : fo_chk mi_h92.2.2.1 ft_92 52 fz92_52_4_61s 61 = true := by decide +kernel
theorem fz92_64_1_66 : fo_chk mi_h92.2.2.1 ft_92 64 fz92_64_1_66s 66 = true := by decide +kernel
theorem fz92_67_6_77 : fo_chk mi_h92.2.2.1 ft_92 67 fz92_67_6_77s 77 = true := by decide +kernel
theorem fz92_80_2_84 : fo_chk mi_h92.2.2.1 ft_92 80 fz92_80_2_84s 84 = true := by decide +kernel
theorem fz92_84_3_99 : fo_chk mi_h92.2.2.1 ft_92 84 fz92_84_3_99s 99 = true := by decide +kernel
theorem fz92_87_2_99 : fo_chk mi_h92.2.2.1 ft_92 87 fz92_87_2_99s 99 = true := by decide +kernel
theorem fz92_92_3_99 : fo_chk mi_h92.2.2.1 ft_92 92 fz92_92_3_99s 99 = true := by decide +kernel
theorem fz92_93_2_99 : fo_chk mi_h92.2.2.1 ft_92 93 fz92_93_2_99s 99 = true := by decide +kernel
theorem fz93_0_2_2 : fo_chk mi_h93.2.2.1 ft_93 0 fz93_0_2_2s 2 = true := by decide +kernel
theorem fz93_5_2_18 : fo_chk mi_h93.2.2.1 ft_93 5 fz93_5_2_18s 18 = true := by decide +kernel
theorem fz93_5_4_11 : fo_chk mi_h93.2.2.1 ft_93 5 fz93_5_4_11s 11 = true := by decide +kernel
theorem fz93_14_2_18 : fo_chk mi_h93.2.2.1 ft_93 14 fz93_14_2_18s 18 = true := by decide +kernel
theorem fz93_14_3_21 : fo_chk mi_h93.2.2.1 ft_93 14 fz93_14_3_21s 21 = true := by decide +kernel
theorem fz93_24_2_28 : fo_chk mi_h93.2.2.1 ft_93 24 fz93_24_2_28s 28 = true := by decide +kernel
theorem fz93_31_1_33 : fo_chk mi_h93.2.2.1 ft_93 31 fz93_31_1_33s 33 = true := by decide +kernel
theorem fz93_34_5_43 : fo_chk mi_h93.2.2.1 ft_93 34 fz93_34_5_43s 43 = true := by decide +kernel
theorem fz93_46_2_49 : fo_chk mi_h93.2.2.1 ft_93 46 fz93_46_2_49s 49 = true := by decide +kernel
theorem fz93_49_3_64 : fo_chk mi_h93.2.2.1 ft_93 49 fz93_49_3_64s 64 = true := by decide +kernel
theorem fz93_52_2_64 : fo_chk mi_h93.2.2.1 ft_93 52 fz93_52_2_64s 64 = true := by decide +kernel
theorem fz93_57_3_64 : fo_chk mi_h93.2.2.1 ft_93 57 fz93_57_3_64s 64 = true := by decide +kernel
theorem fz93_58_2_64 : fo_chk mi_h93.2.2.1 ft_93 58 fz93_58_2_64s 64 = true := by decide +kernel
theorem fz94_0_1_1 : fo_chk mi_h94.2.2.1 ft_94 0 fz94_0_1_1s 1 = true := by decide +kernel
theorem fz94_1_2_31 : fo_chk mi_h94.2.2.1 ft_94 1 fz94_1_2_31s 31 = true := by decide +kernel
theorem fz94_17_2_19 : fo_chk mi_h94.2.2.1 ft_94 17 fz94_17_2_19s 19 = true := by decide +kernel
theorem fz94_22_2_31 : fo_chk mi_h94.2.2.1 ft_94 22 fz94_22_2_31s 31 = true := by decide +kernel
theorem fz94_22_3_27 : fo_chk mi_h94.2.2.1 ft_94 22 fz94_22_3_27s 27 = true := by decide +kernel
theorem fz94_30_1_31 : fo_chk mi_h94.2.2.1 ft_94 30 fz94_30_1_31s 31 = true := by decide +kernel
theorem fz94_32_1_33 : fo_chk mi_h94.2.2.1 ft_94 32 fz94_32_1_33s 33 = true := by decide +kernel
theorem fz94_36_3_41 : fo_chk mi_h94.2.2.1 ft_94 36 fz94_36_3_41s 41 = true := by decide +kernel
theorem fz94_44_1_46 : fo_chk mi_h94.2.2.1 ft_94 44 fz94_44_1_46s 46 = true := by decide +kernel
theorem fz94_47_2_50 : fo_chk mi_h94.2.2.1 ft_94 47 fz94_47_2_50s 50 = true := by decide +kernel
theorem fz94_53_1_55 : fo_chk mi_h94.2.2.1 ft_94 53 fz94_53_1_55s 55 = true := by decide +kernel
theorem fz94_56_6_66 : fo_chk mi_h94.2.2.1 ft_94 56 fz94_56_6_66s 66 = true := by decide +kernel
theorem fz94_69_1_70 : fo_chk mi_h94.2.2.1 ft_94 69 fz94_69_1_70s 70 = true := by decide +kernel
theorem fz94_73_4_92 : fo_chk mi_h94.2.2.1 ft_94 73 fz94_73_4_92s 92 = true := by decide +kernel
theorem fz94_83_4_91 : fo_chk mi_h94.2.2.1 ft_94 83 fz94_83_4_91s 91 = true := by decide +kernel
theorem fz95_0_2_2 : fo_chk mi_h95.2.2.1 ft_95 0 fz95_0_2_2s 2 = true := by decide +kernel
theorem fz95_5_2_9 : fo_chk mi_h95.2.2.1 ft_95 5 fz95_5_2_9s 9 = true := by decide +kernel
theorem fz95_5_3_12 : fo_chk mi_h95.2.2.1 ft_95 5 fz95_5_3_12s 12 = true := by decide +kernel
theorem fz95_15_2_17 : fo_chk mi_h95.2.2.1 ft_95 15 fz95_15_2_17s 17 = true := by decide +kernel
theorem fz95_20_1_21 : fo_chk mi_h95.2.2.1 ft_95 20 fz95_20_1_21s 21 = true := by decide +kernel
theorem fz95_22_4_30 : fo_chk mi_h95.2.2.1 ft_95 22 fz95_22_4_30s 30 = true := by decide +kernel
theorem fz95_33_7_47 : fo_chk mi_h95.2.2.1 ft_95 33 fz95_33_7_47s 47 = true := by decide +kernel
theorem fz124_0_1_1 : fo_chk mi_h124.2.2.1 ft_124 0 fz124_0_1_1s 1 = true := by decide +kernel
theorem fz124_1_2_42 : fo_chk mi_h124.2.2.1 ft_124 1 fz124_1_2_42s 42 = true := by decide +kernel
theorem fz124_4_4_9 : fo_chk mi_h124.2.2.1 ft_124 4 fz124_4_4_9s 9 = true := by decide +kernel
theorem fz124_12_2_42 : fo_chk mi_h124.2.2.1 ft_124 12 fz124_12_2_42s 42 = true := by decide +kernel
theorem fz124_12_5_20 : fo_chk mi_h124.2.2.1 ft_124 12 fz124_12_5_20s 20 = true := by decide +kernel
theorem fz124_23_2_42 : fo_chk mi_h124.2.2.1 ft_124 23 fz124_23_2_42s 42 = true := by decide +kernel
theorem fz124_23_7_34 : fo_chk mi_h124.2.2.1 ft_124 23 fz124_23_7_34s 34 = true := by decide +kernel
theorem fz124_37_2_42 : fo_chk mi_h124.2.2.1 ft_124 37 fz124_37_2_42s 42 = true := by decide +kernel
theorem fz124_38_1_42 : fo_chk mi_h124.2.2.1 ft_124 38 fz124_38_1_42s 42 = true := by decide +kernel
theorem fz124_41_1_42 : fo_chk mi_h124.2.2.1 ft_124 41 fz124_41_1_42s 42 = true := by decide +kernel
